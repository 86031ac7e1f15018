import java.util.Random;

/** Long runs of calls, the same each time, against the plain form and against what a file must hold to. */
public final class RandomRunsTest {
    private static final int NONE = VotedFile.NONE;
    private static final int RUNS = 3000;
    private static final int CALLS = 512;
    private static final int[] ODD = {Integer.MIN_VALUE, Integer.MIN_VALUE + 1, -100, -2, -1, 8, 9, 10, 14, 16, 17,
        200, 201, 299, 300, 301, 100000, Integer.MAX_VALUE - 1, Integer.MAX_VALUE};
    /** How often each call comes, from votes to halt, for each of the kinds of run. */
    private static final int[][] MIXES = {
        {4, 6, 4, 12, 12, 6, 30, 6, 4, 4, 4, 4, 4},
        {2, 12, 8, 8, 8, 2, 60, 4, 2, 2, 1, 1, 3},
        {1, 2, 2, 20, 20, 20, 4, 0, 0, 12, 2, 2, 18},
        {3, 14, 10, 10, 10, 2, 8, 14, 2, 2, 1, 1, 1},
        {2, 8, 10, 8, 8, 6, 70, 0, 8, 8, 6, 3, 4},
        {0, 1, 2, 46, 46, 0, 0, 40, 0, 0, 0, 0, 30},
    };

    private static final Due due = new Due("RandomRunsTest");
    private final Random random;
    private final int[] mix;
    private final VotedFile x;
    private final PlainVotedFile plain;

    private static int restarts;
    private static int doneReads;
    private static int doneChanges;
    private static int lostRuns;
    private static int fullActs;
    private static int fullTables;

    private RandomRunsTest(int run) {
        random = new Random(20261116L + run);
        mix = MIXES[run % MIXES.length];
        int n = random.nextInt(10) == 0 ? ODD[random.nextInt(ODD.length)] : random.nextInt(7) + 1;
        x = new VotedFile(n);
        plain = new PlainVotedFile(n);
    }

    public static void main(String[] args) {
        for (int run = 0; run < RUNS && due.allRight(); run++) {
            due.part("run " + run);
            RandomRunsTest one = new RandomRunsTest(run);
            for (int call = 0; call < CALLS && due.allRight(); call++) {
                one.call();
                one.compareSome();
                if (call % 64 == 63) {
                    one.compareAll();
                }
            }
            one.holdsTogether();
            one.count();
        }
        due.part("the runs");
        due.is("there are phases that begin anew, reads, changes, losses and full tables",
            restarts > 100 && doneReads > 1000 && doneChanges > 1000 && lostRuns > 50 && fullActs > 20
            && fullTables > 50, true);
        System.out.println("restarts " + restarts + ", reads " + doneReads + ", changes " + doneChanges
            + ", runs with losses " + lostRuns + ", with 200 acts " + fullActs + ", with 16 tables " + fullTables);
        due.end();
    }

    private int some(int below) {
        return random.nextInt(40) == 0 ? ODD[random.nextInt(ODD.length)] : random.nextInt(below);
    }

    /** A client that has an act under way, or has none; at times another. */
    private int clientThatIs(boolean busy) {
        int c = some(4);
        if (plain.isClient(c) && (plain.users[c].deed != null) != busy) {
            return some(4);
        }
        return c;
    }

    private int kindOfCall() {
        int all = 0;
        for (int share : mix) {
            all += share;
        }
        int at = random.nextInt(all);
        for (int kind = 0; kind < mix.length; kind++) {
            at -= mix[kind];
            if (at < 0) {
                return kind;
            }
        }
        return 0;
    }

    private int place() {
        return some(Math.max(1, plain.way.size() + (random.nextInt(30) == 0 ? 1 : 0)));
    }

    private void call() {
        switch (kindOfCall()) {
            case 0 -> votes();
            case 1 -> change();
            case 2 -> due.is("resume()", x.resume(), plain.resume());
            case 3 -> {
                int c = clientThatIs(false);
                due.is("read(" + c + ")", x.read(c), plain.read(c));
            }
            case 4 -> {
                int c = clientThatIs(false);
                long value = random.nextLong();
                due.is("write(" + c + ", " + value + ")", x.write(c, value), plain.write(c, value));
            }
            case 5 -> {
                int c = clientThatIs(true);
                due.is("again(" + c + ")", x.again(c), plain.again(c));
            }
            case 6 -> {
                int k = place();
                due.is("deliver(" + k + ")", x.deliver(k), plain.deliver(k));
            }
            case 7 -> {
                int n = random.nextInt(3) == 0 ? some(1000) : some(30);
                due.is("settle(" + n + ")", x.settle(n), plain.settle(n));
            }
            case 8 -> {
                int k = place();
                due.is("lose(" + k + ")", x.lose(k), plain.lose(k));
            }
            case 9 -> {
                int k = place();
                due.is("twice(" + k + ")", x.twice(k), plain.twice(k));
            }
            case 10 -> {
                int c = some(7);
                boolean is = random.nextInt(3) == 0;
                due.is("silent(" + c + ", " + is + ")", x.silent(c, is), plain.silent(c, is));
            }
            case 11 -> {
                int whose = random.nextBoolean() ? some(8) : 10 + random.nextInt(5);
                int side = random.nextInt(3) == 0 ? some(5) : 0;
                due.is("side(" + whose + ", " + side + ")", x.side(whose, side), plain.side(whose, side));
            }
            default -> {
                int c = clientThatIs(true);
                due.is("halt(" + c + ")", x.halt(c), plain.halt(c));
            }
        }
    }

    private void votes() {
        int copy = some(7);
        int votes = random.nextInt(2) == 0 ? some(3) : some(11);
        due.is("votes(" + copy + ", " + votes + ")", x.votes(copy, votes), plain.votes(copy, votes));
    }

    private void change() {
        int sum = 0;
        for (int votes : plain.told) {
            sum += votes;
        }
        int w = sum / 2 + 1 + (random.nextInt(3) == 0 ? random.nextInt(sum / 2 + 1) : 0);
        int r = sum - w + 1 + random.nextInt(2);
        if (random.nextInt(10) == 0) {
            r = some(sum + 2);
        }
        if (random.nextInt(10) == 0) {
            w = some(sum + 2);
        }
        due.is("change(" + r + ", " + w + ")", x.change(r, w), plain.change(r, w));
    }

    private void compareSome() {
        for (int what = -1; what <= 6; what++) {
            due.is("about(" + what + ")", x.about(what), plain.about(what));
        }
        for (int c = 0; c < 4; c++) {
            for (int what = 0; what <= 5; what++) {
                due.is("client(" + c + ", " + what + ")", x.client(c, what), plain.client(c, what));
            }
        }
        for (int c = 0; c < 7; c++) {
            due.is("kept(" + c + ")", x.kept(c), plain.kept(c));
            for (int what = 0; what <= 5; what++) {
                due.is("copy(" + c + ", " + what + ")", x.copy(c, what), plain.copy(c, what));
            }
        }
        int act = some(202);
        int k = place();
        int what = some(10);
        due.is("act(" + act + ", " + what + ")", x.act(act, what), plain.act(act, what));
        due.is("value(" + act + ")", x.value(act), plain.value(act));
        due.is("air(" + k + ", " + what + ")", x.air(k, what), plain.air(k, what));
        due.is("client(" + k + ", " + what + ")", x.client(k, what), plain.client(k, what));
        due.is("copy(" + k + ", " + what + ")", x.copy(k, what), plain.copy(k, what));
        due.is("kept(" + k + ")", x.kept(k), plain.kept(k));
    }

    private void compareAll() {
        for (int k = -1; k <= plain.way.size(); k++) {
            for (int what = -1; what <= 9; what++) {
                due.is("air(" + k + ", " + what + ")", x.air(k, what), plain.air(k, what));
            }
        }
        for (int act = -1; act <= 201; act++) {
            due.is("value(" + act + ")", x.value(act), plain.value(act));
            for (int what = -1; what <= 7; what++) {
                due.is("act(" + act + ", " + what + ")", x.act(act, what), plain.act(act, what));
            }
        }
        for (int t = -1; t <= 16; t++) {
            for (int what = -1; what <= 9; what++) {
                due.is("table(" + t + ", " + what + ")", x.table(t, what), plain.table(t, what));
            }
        }
    }

    /** What is done ahead of an act's beginning is seen by it: reads never go back, writes go above. */
    private void holdsTogether() {
        int acts = x.about(2);
        for (int later = 1; later <= acts; later++) {
            if (x.act(later, 0) == 2 || x.act(later, 3) == NONE) {
                continue;
            }
            for (int earlier = 1; earlier < later; earlier++) {
                if (x.act(earlier, 0) != 2 && x.act(earlier, 3) != NONE && x.act(earlier, 3) < x.act(later, 2)) {
                    int above = compareTags(later, earlier);
                    boolean right = x.act(later, 0) == 1 ? above > 0 : above >= 0;
                    due.is("act " + later + " sees what act " + earlier + " did", right, true);
                }
            }
            int writer = x.act(later, 5);
            due.is("act " + later + " has what act " + writer + " wrote", x.value(later), x.value(writer));
        }
    }

    private int compareTags(int one, int other) {
        int byFirst = Integer.compare(x.act(one, 4), x.act(other, 4));
        return byFirst != 0 ? byFirst : Integer.compare(x.act(one, 5), x.act(other, 5));
    }

    private void count() {
        for (PlainVotedFile.Deed deed : plain.deeds.values()) {
            boolean done = deed.done != null;
            restarts += deed.kind < 2 && deed.round > deed.phaseReached ? 1 : 0;
            doneReads += deed.kind == 0 && done ? 1 : 0;
            doneChanges += deed.kind == 2 && done ? 1 : 0;
        }
        lostRuns += plain.lost > 0 ? 1 : 0;
        fullActs += plain.deeds.size() == 200 ? 1 : 0;
        fullTables += plain.rules.size() == 16 ? 1 : 0;
    }
}
