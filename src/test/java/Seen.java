import java.util.function.Consumer;
import java.util.function.ToLongFunction;

/**
 * All that can be seen of an object behind a run of calls, as lines of text. Each row is asked for on
 * an object of its own, because what an object answers behind its 512th call is free.
 */
final class Seen {
    private final int copies;
    private final Consumer<VotedFile> run;
    private final StringBuilder lines = new StringBuilder();

    private Seen(int copies, Consumer<VotedFile> run) {
        this.copies = copies;
        this.run = run;
    }

    static String behind(int copies, Consumer<VotedFile> run) {
        Seen seen = new Seen(copies, run);
        VotedFile counted = seen.fresh();
        int tables = counted.about(1);
        int acts = counted.about(2);
        int lying = counted.about(3);
        seen.row("about", 0, 5, (x, what) -> x.about(what));
        for (int c = -1; c <= 7; c++) {
            int copy = c;
            seen.row("copy " + copy, -1, 6, (x, what) -> x.copy(copy, what));
            seen.one("kept " + copy, x -> x.kept(copy));
        }
        for (int c = -1; c <= 4; c++) {
            int client = c;
            seen.row("client " + client, -1, 6, (x, what) -> x.client(client, what));
        }
        for (int t = -1; t <= tables; t++) {
            int table = t;
            seen.row("table " + table, -1, 9, (x, what) -> x.table(table, what));
        }
        for (int a = 0; a <= acts + 1; a++) {
            int act = a;
            seen.row("act " + act, -1, 7, (x, what) -> x.act(act, what));
            seen.one("value " + act, x -> x.value(act));
        }
        for (int i = -1; i <= lying; i++) {
            int k = i;
            seen.row("air " + k, -1, 9, (x, what) -> x.air(k, what));
        }
        return seen.lines.toString();
    }

    private interface Question {
        int ask(VotedFile x, int what);
    }

    private VotedFile fresh() {
        VotedFile x = new VotedFile(copies);
        run.accept(x);
        return x;
    }

    private void row(String name, int from, int to, Question question) {
        VotedFile x = fresh();
        lines.append(name).append(':');
        for (int what = from; what <= to; what++) {
            lines.append(' ').append(question.ask(x, what));
        }
        lines.append('\n');
    }

    private void one(String name, ToLongFunction<VotedFile> question) {
        lines.append(name).append(": ").append(question.applyAsLong(fresh())).append('\n');
    }
}
