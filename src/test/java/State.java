import java.util.function.Consumer;
import java.util.function.Predicate;
import java.util.function.ToIntFunction;

/** What an object is behind a run of calls, to be asked for calls that must be refused there. */
final class State {
    private static final int VOTES_OF_ALL_MOST = 63;

    private final Due due;
    private final int copies;
    private final Consumer<VotedFile> run;
    private final String now;
    private final String later;

    State(Due due, int copies, Consumer<VotedFile> run) {
        this.due = due;
        this.copies = copies;
        this.run = run;
        this.now = Seen.behind(copies, run);
        this.later = Seen.behind(copies, run.andThen(State::goOn));
    }

    /** Brings out what can't be asked for: rounds, BEST, what is carried, the votes that were told. */
    private static void goOn(VotedFile x) {
        for (int c = 0; c < 4; c++) {
            x.again(c);
        }
        x.settle(5000);
        x.halt(0);
        x.resume();
        x.settle(5000);
        int begun = VotedFile.NONE;
        for (int all = VOTES_OF_ALL_MOST; all >= 1 && begun == VotedFile.NONE; all--) {
            begun = x.change(all, all);
        }
    }

    void answersNone(String name, ToIntFunction<VotedFile> call) {
        VotedFile x = new VotedFile(copies);
        run.accept(x);
        due.is(name, call.applyAsInt(x), VotedFile.NONE);
        doesNothing(name, made -> call.applyAsInt(made));
    }

    void answersFalse(String name, Predicate<VotedFile> call) {
        VotedFile x = new VotedFile(copies);
        run.accept(x);
        due.is(name, call.test(x), false);
        doesNothing(name, made -> call.test(made));
    }

    /** The call leaves all as it was, and all that follows. */
    void doesNothing(String name, Consumer<VotedFile> call) {
        Consumer<VotedFile> both = run.andThen(call);
        due.same(name + ", what is seen then", Seen.behind(copies, both), now);
        due.same(name + ", what is seen later", Seen.behind(copies, both.andThen(State::goOn)), later);
    }
}
