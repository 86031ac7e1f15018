/** Promises 1 to 7: each sentence of the document that names a boundary has a test of its own here. */
public final class Boundaries1To7Test {
    private static final int NONE = VotedFile.NONE;
    private static final int[] FAR = Steps.FAR;
    private static final Due due = new Due("Boundaries1To7Test");

    public static void main(String[] args) {
        promise1OneBelowOne();
        promise1SevenAboveSeven();
        promise1EachBetween();
        promise1TableZeroIsCut();
        promise1ZeroAtFirst();
        promise2NoneSuch();
        promise2NotZeroToNine();
        promise2ZeroAndNine();
        promise2AsTableZeroAtFirst();
        promise2TheyStayAsTold();
        promise2TheNextTableAlone();
        promise3BelowOne();
        promise3AtMostTheSum();
        promise3BothAboveTheSum();
        promise3TwiceWAboveTheSum();
        promise3WrapAround();
        promise3EveryRAndW();
        promise3AllVotesThereAre();
        promise3SixteenTables();
        promise3TwoHundredActs();
        promise3OneUnderWay();
        promise3BaseLessThanLast();
        promise3LastAsItBegins();
        promise3PhaseThreeWantsWOfTheOldTable();
        promise3PhasesFourAndFiveWantWOfTheNewTable();
        promise3BestIsOfPhaseThree();
        promise4OneUnderWay();
        promise4BaseIsLast();
        promise4TwoHundredActs();
        promise4SixteenTables();
        promise4AgainAndAgain();
        promise4BeginsFromTheFirst();
        promise5NoneSuch();
        promise5OneUnderWay();
        promise5TwoHundred();
        promise5EmptyFile();
        promise5JustR();
        promise5JustW();
        promise5EachTableFromBaseToLast();
        promise5BaseBeginsAnewAheadOfAQuorum();
        promise5BaseBecomesTheLastThatIsKnown();
        promise5BaseThatIsNotGreater();
        promise5BaseInPhaseTwo();
        promise6NoneSuch();
        promise6OneUnderWay();
        promise6TwoHundred();
        promise6EveryValue();
        promise6TagOfTheFirstWrite();
        promise6FirstNumberGoesAhead();
        promise6SecondNumberDecides();
        promise7NoActUnderWay();
        promise7NoneSuch();
        promise7ThoseThatHaveNotAnswered();
        promise7InThisPhaseAlone();
        promise7TheSameRound();
        promise7FullAir();
        due.end();
    }

    // ---- promise 1

    private static void promise1OneBelowOne() {
        due.part("promise 1, '1 below 1'");
        String one = Seen.behind(1, Boundaries1To7Test::ordinaryRun);
        for (int asked : new int[] {0, -1, -2, -7, -1000, Integer.MIN_VALUE}) {
            VotedFile x = new VotedFile(asked);
            due.is("about(0) of " + asked, x.about(0), 1);
            due.is("copy(0, 0) of " + asked, x.copy(0, 0), 0);
            due.is("copy(1, 0) of " + asked, x.copy(1, 0), NONE);
            due.is("table(0, 0) of " + asked, x.table(0, 0), 1);
            due.is("table(0, 1) of " + asked, x.table(0, 1), NONE);
            due.same("a run of " + asked, Seen.behind(asked, Boundaries1To7Test::ordinaryRun), one);
        }
    }

    private static void promise1SevenAboveSeven() {
        due.part("promise 1, '7 above 7'");
        String seven = Seen.behind(7, Boundaries1To7Test::ordinaryRun);
        for (int asked : new int[] {8, 9, 10, 16, 1000, Integer.MAX_VALUE}) {
            VotedFile x = new VotedFile(asked);
            due.is("about(0) of " + asked, x.about(0), 7);
            due.is("copy(6, 0) of " + asked, x.copy(6, 0), 0);
            due.is("copy(7, 0) of " + asked, x.copy(7, 0), NONE);
            due.is("table(0, 6) of " + asked, x.table(0, 6), 1);
            due.is("table(0, 7), R of " + asked, x.table(0, 7), 4);
            due.same("a run of " + asked, Seen.behind(asked, Boundaries1To7Test::ordinaryRun), seven);
        }
    }

    private static void ordinaryRun(VotedFile x) {
        x.write(1, 12L);
        x.settle(1000);
        x.votes(0, 2);
        x.change(x.about(0) + 1, x.about(0) + 1);
        x.settle(5);
    }

    private static void promise1EachBetween() {
        due.part("promise 1, 'So many COPIES'");
        for (int n = 1; n <= 7; n++) {
            VotedFile x = new VotedFile(n);
            due.is("about(0) of " + n, x.about(0), n);
            due.is("read(0) of " + n, x.read(0), 1);
            due.is("about(3), a request for each of " + n, x.about(3), n);
            due.is("the last copy of " + n, x.copy(n - 1, 0), 0);
            due.is("the one behind of " + n, x.copy(n, 0), NONE);
        }
    }

    private static void promise1TableZeroIsCut() {
        due.part("promise 1, 'a vote for each, R and W n / 2 + 1 (cut)'");
        int[] half = {1, 2, 2, 3, 3, 4, 4};
        for (int n = 1; n <= 7; n++) {
            VotedFile x = new VotedFile(n);
            for (int c = 0; c < n; c++) {
                due.is("table(0, " + c + ") of " + n, x.table(0, c), 1);
            }
            due.is("table(0, 7) of " + n, x.table(0, 7), half[n - 1]);
            due.is("table(0, 8) of " + n, x.table(0, 8), half[n - 1]);
        }
    }

    private static void promise1ZeroAtFirst() {
        due.part("promise 1, '0 at first'");
        for (int n = 1; n <= 7; n++) {
            VotedFile x = new VotedFile(n);
            int[] about = {n, 1, 0, 0, 0, 0};
            for (int what = 0; what <= 5; what++) {
                due.is("about(" + what + ") of " + n, x.about(what), about[what]);
            }
            for (int c = 0; c < n; c++) {
                due.is("kept(" + c + ") of " + n, x.kept(c), 0L);
                for (int what = 0; what <= 5; what++) {
                    due.is("copy(" + c + ", " + what + ") of " + n, x.copy(c, what), 0);
                }
            }
            int[] client = {NONE, 0, 0, 0, 0, 0};
            for (int c = 0; c < 4; c++) {
                for (int what = 0; what <= 5; what++) {
                    due.is("client(" + c + ", " + what + ") of " + n, x.client(c, what), client[what]);
                }
            }
            due.is("table(1, 7) of " + n, x.table(1, 7), NONE);
            due.is("act(1, 0) of " + n, x.act(1, 0), NONE);
            due.is("air(0, 0) of " + n, x.air(0, 0), NONE);
        }
    }

    // ---- promise 2

    private static void promise2NoneSuch() {
        due.part("promise 2, 'false, doing nothing, if there is none such'");
        for (int n : new int[] {1, 3, 7}) {
            State state = new State(due, n, x -> { });
            for (int copy : new int[] {-2, -1, n, n + 1, 8, 10}) {
                state.answersFalse("votes(" + copy + ", 5) of " + n, x -> x.votes(copy, 5));
            }
            for (int far : FAR) {
                state.answersFalse("votes(" + far + ", 5) of " + n, x -> x.votes(far, 5));
            }
            VotedFile x = new VotedFile(n);
            due.is("votes(n - 1, 5) of " + n, x.votes(n - 1, 5), true);
        }
    }

    private static void promise2NotZeroToNine() {
        due.part("promise 2, 'or not 0 .. 9'");
        State state = new State(due, 3, x -> x.votes(1, 4));
        for (int copy = 0; copy < 3; copy++) {
            int one = copy;
            for (int votes : new int[] {-2, -1, 10, 11}) {
                state.answersFalse("votes(" + one + ", " + votes + ")", x -> x.votes(one, votes));
            }
            for (int far : FAR) {
                state.answersFalse("votes(" + one + ", " + far + ")", x -> x.votes(one, far));
            }
        }
        state.answersFalse("votes(-1, -1)", x -> x.votes(-1, -1));
        state.answersFalse("votes(3, 10)", x -> x.votes(3, 10));
    }

    private static void promise2ZeroAndNine() {
        due.part("promise 2, 'so many VOTES' of 0 .. 9");
        for (int votes = 0; votes <= 9; votes++) {
            VotedFile x = new VotedFile(2);
            due.is("votes(1, " + votes + ")", x.votes(1, votes), true);
            due.is("change", x.change(votes + 1, votes + 1), 1);
            due.is("table(1, 1)", x.table(1, 1), votes);
            due.is("table(1, 0)", x.table(1, 0), 1);
        }
    }

    private static void promise2AsTableZeroAtFirst() {
        due.part("promise 2, 'as TABLE 0 at first'");
        for (int n = 1; n <= 7; n++) {
            VotedFile x = new VotedFile(n);
            due.is("change of " + n + " + 1 votes", x.change(n + 1, n + 1), NONE);
            due.is("change of " + n + " votes", x.change(n, n), 1);
            for (int c = 0; c < n; c++) {
                due.is("table(1, " + c + ") of " + n, x.table(1, c), 1);
            }
        }
    }

    private static void promise2TheyStayAsTold() {
        due.part("promise 2, 'they stay as told'");
        VotedFile x = new VotedFile(3);
        x.votes(0, 0);
        x.votes(2, 9);
        due.is("a change that can't be so", x.change(11, 11), NONE);
        due.is("votes that can't be so", x.votes(2, 10), false);
        for (int t = 1; t <= 3; t++) {
            due.is("change(10, 10)", x.change(10, 10), t);
            x.settle(18);
            int[] want = {0, 1, 9};
            for (int c = 0; c < 3; c++) {
                due.is("table(" + t + ", " + c + ")", x.table(t, c), want[c]);
            }
        }
        x.votes(2, 1);
        x.votes(2, 3);
        due.is("what was told last: change(5, 5)", x.change(5, 5), NONE);
        due.is("what was told last: change(4, 4)", x.change(4, 4), 4);
        due.is("table(4, 2)", x.table(4, 2), 3);
    }

    private static void promise2TheNextTableAlone() {
        due.part("promise 2, 'The next TABLE that is made'");
        VotedFile x = new VotedFile(2);
        x.votes(0, 2);
        x.change(2, 3);
        due.is("votes(0, 7) while a change is under way", x.votes(0, 7), true);
        due.is("table(1, 0)", x.table(1, 0), 2);
        due.is("about(1)", x.about(1), 2);
        due.is("about(4)", x.about(4), 1);
        x.halt(0);
        x.resume();
        due.is("table(1, 0) of the change that is taken up again", x.table(1, 0), 2);
        x.settle(100);
        x.change(8, 8);
        due.is("table(2, 0)", x.table(2, 0), 7);
        due.is("table(0, 0)", x.table(0, 0), 1);
        due.is("table(1, 0)", x.table(1, 0), 2);
    }

    // ---- promise 3

    /** Whether a first change to these votes of one copy, R and W is begun; refused, it must do nothing. */
    private static void change(int votes, int r, int w, boolean can) {
        String name = "change(" + r + ", " + w + ") of " + votes + " votes";
        if (can) {
            VotedFile x = new VotedFile(1);
            x.votes(0, votes);
            due.is(name, x.change(r, w), 1);
            due.is("table(1, 7) of " + name, x.table(1, 7), r);
            due.is("table(1, 8) of " + name, x.table(1, 8), w);
        } else {
            new State(due, 1, x -> x.votes(0, votes)).answersNone(name, x -> x.change(r, w));
        }
    }

    private static void promise3BelowOne() {
        due.part("promise 3, 'R or W is below 1'");
        for (int below : new int[] {0, -1, -6, Integer.MIN_VALUE}) {
            change(6, below, 6, false);
            change(6, 6, below, false);
            change(6, below, below, false);
            change(0, below, below, false);
            change(1, below, 1, false);
            change(1, 1, below, false);
        }
        change(1, 1, 1, true);
        change(6, 1, 6, true);
    }

    private static void promise3AtMostTheSum() {
        due.part("promise 3, 'R and W are at most the sum S of all VOTES'");
        change(6, 6, 6, true);
        change(6, 7, 6, false);
        change(6, 6, 7, false);
        change(6, 7, 7, false);
        change(6, 6, 4, true);
        change(6, 7, 4, false);
        change(6, 1, 7, false);
        change(0, 1, 1, false);
        VotedFile x = new VotedFile(3);
        due.is("votes(0, 0)", x.votes(0, 0), true);
        due.is("change(3, 2) of two votes", x.change(3, 2), NONE);
        due.is("change(2, 3) of two votes", x.change(2, 3), NONE);
        due.is("change(2, 2) of two votes", x.change(2, 2), 1);
    }

    private static void promise3BothAboveTheSum() {
        due.part("promise 3, 'R + W .. are above S'");
        change(6, 2, 4, false);
        change(6, 3, 4, true);
        change(6, 1, 5, false);
        change(6, 2, 5, true);
        change(5, 2, 3, false);
        change(5, 3, 3, true);
        change(9, 4, 5, false);
        change(9, 5, 5, true);
    }

    private static void promise3TwiceWAboveTheSum() {
        due.part("promise 3, '2 W are above S'");
        change(6, 6, 3, false);
        change(6, 6, 4, true);
        change(5, 5, 2, false);
        change(5, 5, 3, true);
        change(2, 2, 1, false);
        change(2, 2, 2, true);
        change(9, 9, 4, false);
        change(9, 9, 5, true);
    }

    private static void promise3WrapAround() {
        due.part("promise 3, numbers that wrap around");
        int[] far = {Integer.MIN_VALUE, Integer.MIN_VALUE + 4, -(1 << 30), 1 << 30, (1 << 30) + 4, Integer.MAX_VALUE - 4,
            Integer.MAX_VALUE};
        State state = new State(due, 4, x -> { });
        for (int one : far) {
            state.answersNone("change(" + one + ", 4)", x -> x.change(one, 4));
            state.answersNone("change(4, " + one + ")", x -> x.change(4, one));
            for (int other : far) {
                state.answersNone("change(" + one + ", " + other + ")", x -> x.change(one, other));
            }
        }
    }

    private static void promise3EveryRAndW() {
        due.part("promise 3, every R and W");
        for (int sum = 0; sum <= 9; sum++) {
            for (int r = -1; r <= sum + 2; r++) {
                for (int w = -1; w <= sum + 2; w++) {
                    boolean can = r >= 1 && w >= 1 && r <= sum && w <= sum && r + w >= sum + 1 && w + w >= sum + 1;
                    VotedFile x = new VotedFile(1);
                    x.votes(0, sum);
                    due.is("change(" + r + ", " + w + ") of " + sum, x.change(r, w), can ? 1 : NONE);
                    due.is("about(1) behind it", x.about(1), can ? 2 : 1);
                }
            }
        }
    }

    private static void promise3AllVotesThereAre() {
        due.part("promise 3, S of seven COPIES with 9 VOTES");
        int[][] wrong = {{64, 63}, {63, 64}, {63, 31}, {31, 32}, {0, 63}};
        for (int[] rw : wrong) {
            VotedFile x = nines();
            due.is("change(" + rw[0] + ", " + rw[1] + ")", x.change(rw[0], rw[1]), NONE);
        }
        int[][] right = {{63, 63}, {1, 63}, {63, 32}, {32, 32}};
        for (int[] rw : right) {
            VotedFile x = nines();
            due.is("change(" + rw[0] + ", " + rw[1] + ")", x.change(rw[0], rw[1]), 1);
            due.is("settle", x.settle(1000), 42);
            due.is("client(0, 2)", x.client(0, 2), 1);
        }
    }

    private static VotedFile nines() {
        VotedFile x = new VotedFile(7);
        for (int c = 0; c < 7; c++) {
            x.votes(c, 9);
        }
        return x;
    }

    private static void promise3SixteenTables() {
        due.part("promise 3, 'there are 16 TABLES'");
        VotedFile x = new VotedFile(1);
        Steps.makeTables(x, 14);
        due.is("about(1)", x.about(1), 15);
        due.is("change(1, 1), the 16th table", x.change(1, 1), 15);
        due.is("about(1)", x.about(1), 16);
        due.is("act(15, 6)", x.act(15, 6), 15);
        State full = new State(due, 1, y -> Steps.makeTables(y, 15));
        full.answersNone("change(1, 1) with 16 tables", y -> y.change(1, 1));
        VotedFile z = new VotedFile(1);
        Steps.makeTables(z, 15);
        due.is("read(0) with 16 tables", z.read(0), 16);
    }

    private static void promise3TwoHundredActs() {
        due.part("promise 3, 'or 200 ACTS'");
        VotedFile x = new VotedFile(1);
        Steps.makeActs(x, 199);
        due.is("about(2)", x.about(2), 199);
        due.is("change(1, 1), the 200th act", x.change(1, 1), 200);
        due.is("about(2)", x.about(2), 200);
        State full = new State(due, 1, y -> Steps.makeActs(y, 200));
        full.answersNone("change(1, 1) with 200 acts", y -> y.change(1, 1));
    }

    private static void promise3OneUnderWay() {
        due.part("promise 3, 'CLIENT 0 has one under way'");
        new State(due, 3, x -> x.read(0)).answersNone("change(2, 2) while it reads", x -> x.change(2, 2));
        new State(due, 3, x -> x.write(0, 3L)).answersNone("change(2, 2) while it writes", x -> x.change(2, 2));
        for (int delivered : new int[] {0, 8, 17 - 1}) {
            State changing = new State(due, 3, x -> {
                x.change(2, 2);
                x.settle(delivered);
            });
            changing.answersNone("change(2, 2) while it changes, " + delivered + " delivered", x -> x.change(2, 2));
        }
        VotedFile x = new VotedFile(3);
        for (int c = 1; c < 4; c++) {
            x.read(c);
        }
        due.is("change(2, 2) while the others read", x.change(2, 2), 4);
        VotedFile y = new VotedFile(3);
        y.read(0);
        y.settle(11);
        due.is("client(0, 0) with its read done", y.client(0, 0), NONE);
        due.is("change(2, 2) behind a read", y.change(2, 2), 2);
    }

    private static void promise3BaseLessThanLast() {
        due.part("promise 3, 'its BASE is less than its LAST'");
        int[] phases = {3, 3, 4, 4, 5, 5};
        int[] delivered = {0, 1, 2, 3, 4, 5};
        for (int i = 0; i < phases.length; i++) {
            int steps = delivered[i];
            VotedFile x = new VotedFile(1);
            x.change(1, 1);
            x.settle(steps);
            due.is("client(0, 1) behind " + steps, x.client(0, 1), phases[i]);
            x.halt(0);
            due.is("client(0, 3) behind " + steps, x.client(0, 3), 1);
            due.is("client(0, 2) behind " + steps, x.client(0, 2), phases[i] == 5 ? 1 : 0);
            if (phases[i] == 5) {
                due.is("change(1, 1): BASE is LAST", x.change(1, 1), 2);
            } else {
                new State(due, 1, y -> {
                    y.change(1, 1);
                    y.settle(steps);
                    y.halt(0);
                }).answersNone("change(1, 1) with phase " + phases[i] + " ended", y -> y.change(1, 1));
            }
        }
    }

    private static void promise3LastAsItBegins() {
        due.part("promise 3, 'its LAST is t as it begins'");
        VotedFile x = new VotedFile(2);
        due.is("change(1, 2)", x.change(1, 2), 1);
        due.is("client(0, 3)", x.client(0, 3), 1);
        due.is("client(0, 2)", x.client(0, 2), 0);
        due.is("client(0, 1)", x.client(0, 1), 3);
        for (int c = 0; c < 2; c++) {
            due.is("copy(" + c + ", 3) is not told yet", x.copy(c, 3), 0);
            due.is("client(" + (c + 1) + ", 3)", x.client(c + 1, 3), 0);
        }
    }

    private static void promise3PhaseThreeWantsWOfTheOldTable() {
        due.part("promise 3, 'PHASE 3 (NEXT t): W in each from BASE to t - 1'");
        VotedFile x = new VotedFile(5);
        x.votes(0, 9);
        due.is("change(5, 9) of 13 votes", x.change(5, 9), 1);
        Steps.exchange(x, 0, 0, 3);
        Steps.exchange(x, 1, 0, 3);
        due.is("two of five: 10 votes in table 1 are not asked for", x.client(0, 1), 3);
        due.is("client(0, 5)", x.client(0, 5), 3);
        Steps.exchange(x, 4, 0, 3);
        due.is("three of five are W of table 0", x.client(0, 1), 4);
    }

    private static void promise3PhasesFourAndFiveWantWOfTheNewTable() {
        due.part("promise 3, 'PHASE 4 (STORE of BEST): W in t', 'PHASE 5 .. (ACTIVE t): W in t'");
        VotedFile x = new VotedFile(3);
        x.votes(0, 4);
        due.is("change(2, 5) of 6 votes", x.change(2, 5), 1);
        Steps.exchange(x, 1, 0, 3);
        Steps.exchange(x, 2, 0, 3);
        due.is("two of three are W of table 0", x.client(0, 1), 4);
        Steps.exchange(x, 1, 0, 4);
        Steps.exchange(x, 2, 0, 4);
        due.is("two of six are not W of table 1", x.client(0, 1), 4);
        due.is("client(0, 2) ahead of phase 5", x.client(0, 2), 0);
        Steps.exchange(x, 0, 0, 4);
        due.is("all are", x.client(0, 1), 5);
        due.is("client(0, 2) as phase 5 begins", x.client(0, 2), 1);
        Steps.exchange(x, 0, 0, 5);
        due.is("four of six are not W of table 1", x.client(0, 1), 5);
        due.is("act(1, 3)", x.act(1, 3), NONE);
        Steps.exchange(x, 2, 0, 5);
        due.is("five of six are", x.client(0, 1), 0);
        due.is("act(1, 3)", x.act(1, 3), x.about(4));
    }

    /** An answer of PHASE 4 or 5 that tells of a greater TAG is no BEST. */
    private static void promise3BestIsOfPhaseThree() {
        due.part("promise 3, 'BEST as in 1'");
        VotedFile x = new VotedFile(3);
        x.write(1, 21L);
        Steps.exchange(x, 0, 1, 1);
        Steps.exchange(x, 1, 1, 1);
        Steps.pass(x, 0, 2, 1, 2);
        x.change(2, 2);
        Steps.exchange(x, 0, 0, 3);
        due.is("act(2, 4) in phase 3", x.act(2, 4), NONE);
        Steps.exchange(x, 1, 0, 3);
        due.is("act(2, 4): neither of them had the tag", x.act(2, 4), 0);
        due.is("act(2, 5)", x.act(2, 5), 0);
        Steps.exchange(x, 2, 0, 4);
        due.is("act(2, 4) with an answer of phase 4", x.act(2, 4), 0);
        due.is("kept(2): tag 0, 0 is not greater", x.kept(2), 21L);
        Steps.exchange(x, 0, 0, 4);
        due.is("client(0, 1)", x.client(0, 1), 5);
        due.is("act(2, 4) in phase 5", x.act(2, 4), 0);
        VotedFile y = new VotedFile(3);
        y.write(1, 22L);
        Steps.exchange(y, 0, 1, 1);
        Steps.exchange(y, 1, 1, 1);
        Steps.pass(y, 0, 2, 1, 2);
        y.change(2, 2);
        Steps.exchange(y, 2, 0, 3);
        Steps.exchange(y, 0, 0, 3);
        due.is("act(2, 4): the greatest of the answers, not the last", y.act(2, 4), 1);
        due.is("act(2, 5)", y.act(2, 5), 1);
        Steps.pass(y, 0, 1, 0, 4);
        due.is("kept(1): BEST is stored with its value", y.kept(1), 22L);
    }

    // ---- promise 4

    private static void endedChange(VotedFile x) {
        x.change(2, 2);
        x.halt(0);
    }

    private static void promise4OneUnderWay() {
        due.part("promise 4, 'CLIENT 0 has one under way'");
        new State(due, 3, x -> x.change(2, 2)).answersNone("resume() while it changes", x -> x.resume());
        new State(due, 3, x -> {
            endedChange(x);
            x.read(0);
        }).answersNone("resume() while it reads", x -> x.resume());
        new State(due, 3, x -> {
            endedChange(x);
            x.write(0, 4L);
        }).answersNone("resume() while it writes", x -> x.resume());
        new State(due, 3, x -> {
            endedChange(x);
            x.resume();
        }).answersNone("resume() while one is taken up again", x -> x.resume());
        VotedFile x = new VotedFile(3);
        endedChange(x);
        for (int c = 1; c < 4; c++) {
            x.read(c);
        }
        due.is("resume() while the others read", x.resume(), 5);
    }

    private static void promise4BaseIsLast() {
        due.part("promise 4, 'its BASE is its LAST'");
        new State(due, 3, x -> { }).answersNone("resume() of a new object", x -> x.resume());
        new State(due, 3, x -> {
            x.change(2, 2);
            x.settle(100);
        }).answersNone("resume() behind a change that is done", x -> x.resume());
        new State(due, 1, x -> {
            x.change(1, 1);
            x.settle(4);
            x.halt(0);
        }).answersNone("resume() with phase 5 ended", x -> x.resume());
        new State(due, 1, x -> {
            x.write(0, 4L);
            x.halt(0);
        }).answersNone("resume() behind a write that was ended", x -> x.resume());
        int[] taken = {0, 1, 2, 3};
        for (int steps : taken) {
            VotedFile x = new VotedFile(1);
            x.change(1, 1);
            x.settle(steps);
            x.halt(0);
            due.is("resume() with phases 3 or 4 ended behind " + steps, x.resume(), 2);
        }
    }

    private static void promise4TwoHundredActs() {
        due.part("promise 4, 'or there are 200 ACTS'");
        VotedFile x = new VotedFile(1);
        x.change(1, 1);
        x.halt(0);
        Steps.makeActs(x, 198);
        due.is("about(2)", x.about(2), 199);
        due.is("resume(), the 200th act", x.resume(), 200);
        due.is("act(200, 6)", x.act(200, 6), 1);
        State full = new State(due, 1, y -> {
            y.change(1, 1);
            y.halt(0);
            Steps.makeActs(y, 199);
        });
        full.answersNone("resume() with 200 acts", y -> y.resume());
    }

    private static void promise4SixteenTables() {
        due.part("promise 4, 16 TABLES are no reason");
        VotedFile x = new VotedFile(1);
        Steps.makeTables(x, 14);
        due.is("change(1, 1), the 16th table", x.change(1, 1), 15);
        x.halt(0);
        due.is("resume()", x.resume(), 16);
        due.is("about(1)", x.about(1), 16);
        due.is("act(16, 6)", x.act(16, 6), 15);
        x.settle(100);
        due.is("client(0, 2)", x.client(0, 2), 15);
        due.is("copy(0, 2)", x.copy(0, 2), 15);
        due.is("resume() behind it", x.resume(), NONE);
    }

    private static void promise4AgainAndAgain() {
        due.part("promise 4, 'A CHANGE that was ended so can be taken up again'");
        VotedFile x = new VotedFile(3);
        endedChange(x);
        for (int act = 2; act <= 6; act++) {
            due.is("resume()", x.resume(), act);
            due.is("act(" + act + ", 6)", x.act(act, 6), 1);
            due.is("halt(0)", x.halt(0), act);
        }
        due.is("about(1)", x.about(1), 2);
        due.is("about(4)", x.about(4), 12);
        due.is("resume()", x.resume(), 7);
        x.settle(100);
        due.is("client(0, 2)", x.client(0, 2), 1);
        for (int act = 1; act <= 6; act++) {
            due.is("act(" + act + ", 3): ended, not done", x.act(act, 3), NONE);
        }
        due.is("act(7, 3) is done", x.act(7, 3) != NONE, true);
    }

    private static void promise4BeginsFromTheFirst() {
        due.part("promise 4, 'resume() is a CHANGE to the CLIENT's LAST'");
        VotedFile x = new VotedFile(1);
        x.write(1, 30L);
        x.settle(4);
        x.change(1, 1);
        x.settle(2);
        due.is("client(0, 1)", x.client(0, 1), 4);
        due.is("act(2, 4)", x.act(2, 4), 1);
        x.halt(0);
        due.is("resume()", x.resume(), 3);
        due.is("client(0, 1)", x.client(0, 1), 3);
        due.is("act(3, 4): BEST is asked for anew", x.act(3, 4), NONE);
        due.is("air(1, 4)", x.air(1, 4), 3);
        due.is("air(1, 7)", x.air(1, 7), 1);
        due.is("air(1, 8)", x.air(1, 8), 1);
        due.is("deliver(0): the ended one's STORE", x.deliver(0), true);
        due.is("deliver(1): its answer", x.deliver(1), true);
        due.is("client(0, 5): it is not this act's", x.client(0, 5), 0);
        due.is("settle(6)", x.settle(6), 6);
        due.is("act(3, 3)", x.act(3, 3), x.about(4));
        due.is("act(3, 4)", x.act(3, 4), 1);
    }

    // ---- promise 5

    private static void promise5NoneSuch() {
        due.part("promise 5, 'there is none such'");
        State state = new State(due, 3, x -> x.read(1));
        for (int client : new int[] {-2, -1, 4, 5, 10, 13}) {
            state.answersNone("read(" + client + ")", x -> x.read(client));
        }
        for (int far : FAR) {
            state.answersNone("read(" + far + ")", x -> x.read(far));
        }
        for (int client = 0; client < 4; client++) {
            due.is("read(" + client + ") of a new object", new VotedFile(3).read(client), 1);
        }
    }

    private static void promise5OneUnderWay() {
        due.part("promise 5, 'it has one under way'");
        for (int c = 0; c < 4; c++) {
            int client = c;
            new State(due, 2, x -> x.read(client)).answersNone("read while it reads", x -> x.read(client));
            new State(due, 2, x -> x.write(client, 1L)).answersNone("read while it writes", x -> x.read(client));
            VotedFile x = new VotedFile(1);
            x.read(client);
            x.settle(3);
            due.is("read ahead of the last answer", x.read(client), NONE);
            x.settle(1);
            due.is("read behind it", x.read(client), 2);
            x.halt(client);
            due.is("read behind a halt", x.read(client), 3);
        }
        new State(due, 2, x -> x.change(1, 2)).answersNone("read(0) while it changes", x -> x.read(0));
        VotedFile y = new VotedFile(2);
        y.change(1, 2);
        due.is("read(1) while client 0 changes", y.read(1), 2);
    }

    private static void promise5TwoHundred() {
        due.part("promise 5, 'there are 200'");
        VotedFile x = new VotedFile(1);
        Steps.makeActs(x, 199);
        due.is("read(2), the 200th act", x.read(2), 200);
        due.is("about(2)", x.about(2), 200);
        due.is("act(200, 1)", x.act(200, 1), 2);
        State full = new State(due, 1, y -> Steps.makeActs(y, 200));
        for (int c = 0; c < 4; c++) {
            int client = c;
            full.answersNone("read(" + client + ") with 200 acts", y -> y.read(client));
        }
    }

    private static void promise5EmptyFile() {
        due.part("promise 5, BEST 'at first TAG 0, 0, VALUE 0'");
        VotedFile x = new VotedFile(3);
        x.read(0);
        x.settle(100);
        due.is("act(1, 4)", x.act(1, 4), 0);
        due.is("act(1, 5)", x.act(1, 5), 0);
        due.is("value(1)", x.value(1), 0L);
        due.is("copy(0, 0)", x.copy(0, 0), 0);
        x.write(0, 5L);
        x.settle(100);
        Steps.loseAll(x);
        due.is("read(0) has a BEST of its own", x.read(0), 3);
        x.silent(0, true);
        x.settle(100);
        due.is("value(3)", x.value(3), 5L);
        VotedFile y = new VotedFile(3);
        y.write(1, 6L);
        Steps.exchange(y, 0, 1, 1);
        Steps.exchange(y, 1, 1, 1);
        Steps.exchange(y, 0, 1, 2);
        y.halt(1);
        y.read(1);
        Steps.loseAll(y);
        y.again(1);
        Steps.exchange(y, 1, 1, 1);
        Steps.exchange(y, 2, 1, 1);
        Steps.exchange(y, 1, 1, 2);
        Steps.exchange(y, 2, 1, 2);
        due.is("act(2, 4): the client's last act left it nothing", y.act(2, 4), 0);
        due.is("act(2, 3)", y.act(2, 3), y.about(4));
    }

    private static void promise5JustR() {
        due.part("promise 5, 'COPIES that have R .. votes there or more together'");
        for (int n = 1; n <= 7; n++) {
            VotedFile x = new VotedFile(n);
            x.read(0);
            for (int c = n - 1; c >= n - n / 2; c--) {
                Steps.exchange(x, c, 0, 1);
                due.is("fewer than R of " + n, x.client(0, 1), 1);
            }
            Steps.exchange(x, 0, 0, 1);
            due.is("just R of " + n, x.client(0, 1), 2);
        }
        VotedFile more = new VotedFile(3);
        more.votes(0, 9);
        more.change(2, 10);
        more.settle(100);
        more.read(0);
        Steps.exchange(more, 1, 0, 1);
        due.is("one vote where R is 2", more.client(0, 1), 1);
        Steps.exchange(more, 0, 0, 1);
        due.is("more than R", more.client(0, 1), 2);
    }

    private static void promise5JustW() {
        due.part("promise 5, 'COPIES that have .. (W) votes there or more together'");
        for (int n = 1; n <= 7; n++) {
            VotedFile x = new VotedFile(n);
            x.read(0);
            for (int c = 0; c <= n / 2; c++) {
                Steps.exchange(x, c, 0, 1);
            }
            for (int c = n - 1; c >= n - n / 2; c--) {
                Steps.exchange(x, c, 0, 2);
                due.is("fewer than W of " + n, x.client(0, 1), 2);
                due.is("act(1, 3) of " + n, x.act(1, 3), NONE);
            }
            Steps.exchange(x, 0, 0, 2);
            due.is("just W of " + n, x.client(0, 1), 0);
            due.is("act(1, 3) of " + n, x.act(1, 3), x.about(4));
        }
    }

    /** Who hears copies 1 to 4 alone wants a quorum in tables 0, 1 and 2; in 1 they have the least. */
    private static void promise5EachTableFromBaseToLast() {
        due.part("promise 5, 'R in each from BASE to LAST', 'W in each from BASE to LAST'");
        VotedFile x = betweenThreeTables();
        due.is("read(1)", x.read(1), 3);
        for (int c = 2; c <= 4; c++) {
            Steps.exchange(x, c, 1, 1);
            due.is("client(1, 2)", x.client(1, 2), 0);
            due.is("client(1, 3)", x.client(1, 3), 2);
        }
        due.is("client(1, 5)", x.client(1, 5), 28);
        due.is("three votes are R in 0 and in 2, not in 1", x.client(1, 1), 1);
        Steps.exchange(x, 1, 1, 1);
        due.is("four are R in each", x.client(1, 1), 2);
        for (int c = 1; c <= 4; c++) {
            Steps.exchange(x, c, 1, 2);
        }
        due.is("client(1, 5)", x.client(1, 5), 30);
        due.is("four votes are W in 0 and in 2, not in 1", x.client(1, 1), 2);
        Steps.exchange(x, 0, 1, 2);
        due.is("client(1, 2): copy 0 knows that table 2 is active", x.client(1, 2), 2);
        due.is("all are W in it", x.client(1, 1), 0);
    }

    /** Copies 1 to 4 are told of tables 1 and 2, copy 0 alone that 2 is active. */
    private static VotedFile betweenThreeTables() {
        VotedFile x = new VotedFile(5);
        x.votes(0, 9);
        due.is("change(4, 10) of 13 votes", x.change(4, 10), 1);
        for (int c = 0; c < 5; c++) {
            Steps.exchange(x, c, 0, 3);
        }
        Steps.exchange(x, 0, 0, 4);
        Steps.exchange(x, 1, 0, 4);
        due.is("client(0, 2) as phase 5 begins", x.client(0, 2), 1);
        x.halt(0);
        Steps.loseAll(x);
        x.votes(0, 1);
        due.is("change(3, 3) of 5 votes", x.change(3, 3), 2);
        for (int c = 4; c >= 0; c--) {
            Steps.exchange(x, c, 0, 3);
        }
        for (int c = 0; c < 3; c++) {
            Steps.exchange(x, c, 0, 4);
        }
        due.is("client(0, 1)", x.client(0, 1), 5);
        Steps.pass(x, 0, 0, 0, 5);
        x.halt(0);
        Steps.loseAll(x);
        for (int c = 0; c < 5; c++) {
            due.is("copy(" + c + ", 2)", x.copy(c, 2), c == 0 ? 2 : 0);
            due.is("copy(" + c + ", 3)", x.copy(c, 3), 2);
        }
        return x;
    }

    private static void promise5BaseBeginsAnewAheadOfAQuorum() {
        due.part("promise 5, 'if BASE did so in PHASE 1, this PHASE begins anew'");
        VotedFile x = new VotedFile(1);
        x.change(1, 1);
        x.settle(6);
        x.read(1);
        x.settle(2);
        due.is("client(1, 1): a quorum, but it begins anew", x.client(1, 1), 1);
        due.is("client(1, 2)", x.client(1, 2), 1);
        due.is("client(1, 5)", x.client(1, 5), 0);
        due.is("air(0, 4)", x.air(0, 4), 1);
        due.is("air(0, 8)", x.air(0, 8), 2);
        x.settle(2);
        due.is("client(1, 1): the same BASE once more", x.client(1, 1), 2);
        due.is("air(0, 8)", x.air(0, 8), 3);
        VotedFile y = new VotedFile(1);
        Steps.makeTables(y, 15);
        y.write(3, 5L);
        y.settle(2);
        due.is("client(3, 2): from 0 to 15 at once", y.client(3, 2), 15);
        due.is("air(0, 8)", y.air(0, 8), 2);
    }

    private static void promise5BaseBecomesTheLastThatIsKnown() {
        due.part("promise 5, BASE becomes greater, LAST is so already");
        VotedFile x = new VotedFile(3);
        x.change(2, 2);
        x.settle(12);
        due.is("client(0, 1)", x.client(0, 1), 5);
        x.deliver(0);
        due.is("copy(0, 2)", x.copy(0, 2), 1);
        due.is("copy(1, 2)", x.copy(1, 2), 0);
        x.read(1);
        Steps.exchange(x, 1, 1, 1);
        due.is("client(1, 2)", x.client(1, 2), 0);
        due.is("client(1, 3)", x.client(1, 3), 1);
        due.is("client(1, 5)", x.client(1, 5), 2);
        Steps.exchange(x, 0, 1, 1);
        due.is("client(1, 2)", x.client(1, 2), 1);
        due.is("client(1, 5): it begins anew", x.client(1, 5), 0);
        due.is("client(1, 1)", x.client(1, 1), 1);
    }

    private static void promise5BaseThatIsNotGreater() {
        due.part("promise 5, 'the CLIENT's BASE becomes the COPY's if that is greater, LAST likewise'");
        VotedFile x = new VotedFile(3);
        x.silent(2, true);
        x.change(2, 2);
        x.settle(100);
        Steps.loseAll(x);
        x.silent(2, false);
        due.is("copy(2, 2)", x.copy(2, 2), 0);
        due.is("copy(2, 3)", x.copy(2, 3), 0);
        x.read(0);
        Steps.exchange(x, 2, 0, 1);
        due.is("client(0, 2): less is not taken", x.client(0, 2), 1);
        due.is("client(0, 3): less is not taken", x.client(0, 3), 1);
        due.is("client(0, 5): it goes on", x.client(0, 5), 4);
        Steps.exchange(x, 1, 0, 1);
        due.is("client(0, 1): the same BASE begins nothing anew", x.client(0, 1), 2);
        due.is("air(last, 8)", x.air(x.about(3) - 1, 8), 2);
        VotedFile y = new VotedFile(3);
        y.change(2, 2);
        Steps.pass(y, 0, 0, 0, 3);
        y.read(1);
        Steps.exchange(y, 0, 1, 1);
        due.is("client(1, 3)", y.client(1, 3), 1);
        Steps.exchange(y, 1, 1, 1);
        due.is("client(1, 3): a LAST of 0 is not taken", y.client(1, 3), 1);
        due.is("client(1, 2)", y.client(1, 2), 0);
    }

    private static void promise5BaseInPhaseTwo() {
        due.part("promise 5, 'By any ANSWER that counts'");
        VotedFile x = new VotedFile(1);
        x.read(1);
        x.settle(2);
        x.change(1, 1);
        due.is("client(1, 1)", x.client(1, 1), 2);
        for (int phase = 3; phase <= 5; phase++) {
            Steps.exchange(x, 0, 0, phase);
        }
        due.is("copy(0, 2)", x.copy(0, 2), 1);
        Steps.exchange(x, 0, 1, 2);
        due.is("client(1, 2) learns in phase 2 too", x.client(1, 2), 1);
        due.is("client(1, 3)", x.client(1, 3), 1);
        due.is("client(1, 1): it is done, nothing begins anew", x.client(1, 1), 0);
        due.is("about(3)", x.about(3), 0);
        VotedFile y = new VotedFile(1);
        y.change(1, 1);
        y.settle(6);
        y.read(1);
        y.deliver(0);
        y.halt(1);
        y.deliver(0);
        due.is("client(1, 2): an answer that does not count", y.client(1, 2), 0);
        due.is("client(1, 3)", y.client(1, 3), 0);
    }

    // ---- promise 6

    private static void promise6NoneSuch() {
        due.part("promise 6, 'likewise': there is none such");
        State state = new State(due, 3, x -> x.write(1, 8L));
        for (int client : new int[] {-2, -1, 4, 5, 10, 13}) {
            state.answersNone("write(" + client + ", 7)", x -> x.write(client, 7L));
        }
        for (int far : FAR) {
            state.answersNone("write(" + far + ", 7)", x -> x.write(far, 7L));
        }
        for (int client = 0; client < 4; client++) {
            due.is("write(" + client + ", 7) of a new object", new VotedFile(3).write(client, 7L), 1);
        }
    }

    private static void promise6OneUnderWay() {
        due.part("promise 6, 'likewise': it has one under way");
        for (int c = 0; c < 4; c++) {
            int client = c;
            new State(due, 2, x -> x.read(client)).answersNone("write while it reads", x -> x.write(client, 9L));
            new State(due, 2, x -> x.write(client, 1L)).answersNone("write while it writes", x -> x.write(client, 9L));
            VotedFile x = new VotedFile(1);
            x.write(client, 1L);
            x.settle(3);
            due.is("write ahead of the last answer", x.write(client, 2L), NONE);
            x.settle(1);
            due.is("write behind it", x.write(client, 2L), 2);
            x.halt(client);
            due.is("write behind a halt", x.write(client, 3L), 3);
        }
        new State(due, 2, x -> x.change(1, 2)).answersNone("write(0, 9) while it changes", x -> x.write(0, 9L));
        VotedFile y = new VotedFile(2);
        y.change(1, 2);
        due.is("write(1, 9) while client 0 changes", y.write(1, 9L), 2);
    }

    private static void promise6TwoHundred() {
        due.part("promise 6, 'likewise': there are 200");
        VotedFile x = new VotedFile(1);
        Steps.makeActs(x, 199);
        due.is("write(2, 5), the 200th act", x.write(2, 5L), 200);
        due.is("value(200)", x.value(200), 5L);
        State full = new State(due, 1, y -> Steps.makeActs(y, 200));
        for (int c = 0; c < 4; c++) {
            int client = c;
            full.answersNone("write(" + client + ", 5) with 200 acts", y -> y.write(client, 5L));
        }
    }

    private static void promise6EveryValue() {
        due.part("promise 6, 'a VALUE (a long ..)'");
        long[] values = {Long.MIN_VALUE, Long.MIN_VALUE + 1, -1L - Integer.MAX_VALUE - 1L, -1L, 0L, 1L, 1L << 32,
            Long.MAX_VALUE};
        VotedFile x = new VotedFile(2);
        int act = 0;
        for (long value : values) {
            act++;
            due.is("write(0, " + value + ")", x.write(0, value), act);
            x.settle(100);
            due.is("kept(0)", x.kept(0), value);
            due.is("kept(1)", x.kept(1), value);
            act++;
            x.read(3);
            x.settle(100);
            due.is("value of the read", x.value(act), value);
        }
    }

    private static void promise6TagOfTheFirstWrite() {
        due.part("promise 6, 'BEST's first number and 1, with the ACT's number'");
        VotedFile x = new VotedFile(3);
        x.read(0);
        x.settle(100);
        due.is("write(1, 7)", x.write(1, 7L), 2);
        x.settle(100);
        due.is("act(2, 4)", x.act(2, 4), 1);
        due.is("act(2, 5)", x.act(2, 5), 2);
        x.read(0);
        x.settle(100);
        due.is("write(1, 8)", x.write(1, 8L), 4);
        x.settle(100);
        due.is("act(4, 4)", x.act(4, 4), 2);
        due.is("act(4, 5)", x.act(4, 5), 4);
        due.is("copy(2, 0)", x.copy(2, 0), 2);
        due.is("copy(2, 1)", x.copy(2, 1), 4);
    }

    private static void promise6FirstNumberGoesAhead() {
        due.part("promise 6, 'one is greater if the first is'");
        VotedFile x = new VotedFile(1);
        x.write(0, 1L);
        x.side(10, 1);
        x.write(1, 2L);
        x.settle(100);
        due.is("act(2, 4)", x.act(2, 4), 1);
        due.is("act(2, 5)", x.act(2, 5), 2);
        x.side(10, 0);
        x.settle(100);
        due.is("act(1, 4)", x.act(1, 4), 2);
        due.is("act(1, 5)", x.act(1, 5), 1);
        due.is("kept(0): 2, 1 is greater than 1, 2", x.kept(0), 1L);
        VotedFile y = new VotedFile(1);
        y.write(0, 1L);
        y.write(1, 2L);
        due.is("client 1's request and answer", Steps.exchange(y, 0, 1, 1), true);
        y.twice(1);
        Steps.exchange(y, 0, 1, 2);
        Steps.exchange(y, 0, 0, 1);
        Steps.exchange(y, 0, 0, 2);
        due.is("kept(0)", y.kept(0), 1L);
        due.is("act(1, 4)", y.act(1, 4), 2);
        Steps.exchange(y, 0, 1, 2);
        due.is("kept(0): 1, 2 is not greater than 2, 1", y.kept(0), 1L);
        due.is("copy(0, 0)", y.copy(0, 0), 2);
        due.is("copy(0, 1)", y.copy(0, 1), 1);
    }

    private static void promise6SecondNumberDecides() {
        due.part("promise 6, 'or both firsts are the same and the second is'");
        for (int first = 0; first <= 1; first++) {
            for (int ahead = 0; ahead <= 3; ahead++) {
                VotedFile x = new VotedFile(1);
                Steps.makeActs(x, ahead);
                Steps.loseAll(x);
                x.write(0, 10L);
                x.write(1, 11L);
                x.settle(4);
                due.is("act(" + (ahead + 1) + ", 4)", x.act(ahead + 1, 4), 1);
                due.is("act(" + (ahead + 2) + ", 4)", x.act(ahead + 2, 4), 1);
                Steps.exchange(x, 0, first, 2);
                due.is("kept(0)", x.kept(0), 10L + first);
                Steps.exchange(x, 0, 1 - first, 2);
                due.is("kept(0): the later act's tag is greater", x.kept(0), 11L);
                due.is("copy(0, 1)", x.copy(0, 1), ahead + 2);
            }
        }
    }

    // ---- promise 7

    private static void promise7NoActUnderWay() {
        due.part("promise 7, 'NONE if it has no ACT under way'");
        State fresh = new State(due, 3, x -> { });
        State others = new State(due, 3, x -> {
            for (int c = 0; c < 3; c++) {
                x.write(c, c);
            }
        });
        for (int c = 0; c < 4; c++) {
            int client = c;
            fresh.answersNone("again(" + client + ") of a new object", x -> x.again(client));
            new State(due, 1, x -> {
                x.read(client);
                x.settle(4);
            }).answersNone("again(" + client + ") behind what is done", x -> x.again(client));
            new State(due, 1, x -> {
                x.read(client);
                x.settle(1);
                x.halt(client);
            }).answersNone("again(" + client + ") behind a halt", x -> x.again(client));
        }
        others.answersNone("again(3) while the others write", x -> x.again(3));
    }

    private static void promise7NoneSuch() {
        due.part("promise 7, 'or there is none such'");
        State state = new State(due, 2, x -> {
            for (int c = 0; c < 4; c++) {
                x.write(c, c);
            }
        });
        for (int client : new int[] {-2, -1, 4, 5, 10, 13}) {
            state.answersNone("again(" + client + ")", x -> x.again(client));
        }
        for (int far : FAR) {
            state.answersNone("again(" + far + ")", x -> x.again(far));
        }
    }

    private static void promise7ThoseThatHaveNotAnswered() {
        due.part("promise 7, 'to those COPIES that have not answered in it: how many'");
        VotedFile x = new VotedFile(7);
        x.write(2, 5L);
        int[] order = {6, 0, 3};
        for (int i = 0; i < order.length; i++) {
            due.is("again(2)", x.again(2), 7 - i);
            Steps.exchange(x, order[i], 2, 1);
        }
        Steps.loseAll(x);
        due.is("again(2)", x.again(2), 4);
        int[] rest = {1, 2, 4, 5};
        for (int k = 0; k < rest.length; k++) {
            due.is("air(" + k + ", 1)", x.air(k, 1), rest[k]);
            due.is("air(" + k + ", 0)", x.air(k, 0), 0);
        }
        due.is("deliver(0): the request alone is no answer", x.deliver(0), true);
        due.is("again(2)", x.again(2), 4);
        due.is("about(4): again does not move the clock", x.about(4), 1 + 6 + 1);
    }

    private static void promise7InThisPhaseAlone() {
        due.part("promise 7, 'The REQUESTS of a CLIENT's PHASE'");
        VotedFile x = new VotedFile(3);
        x.change(2, 2);
        for (int phase = 3; phase <= 5; phase++) {
            due.is("again(0) as phase " + phase + " begins", x.again(0), 3);
            int last = x.about(3) - 1;
            due.is("air(last, 4)", x.air(last, 4), phase);
            due.is("air(last, 7)", x.air(last, 7), phase == 4 ? NONE : 1);
            Steps.exchange(x, 1, 0, phase);
            due.is("again(0) with one answer", x.again(0), 2);
            Steps.exchange(x, 2, 0, phase);
        }
        due.is("again(0) of what is done", x.again(0), NONE);
        Steps.loseAll(x);
        x.read(1);
        Steps.exchange(x, 2, 1, 1);
        due.is("client(1, 2): it began anew", x.client(1, 2), 1);
        due.is("again(1): nobody has answered in it", x.again(1), 3);
    }

    private static void promise7TheSameRound() {
        due.part("promise 7, 'sent anew', in the ROUND that it is");
        VotedFile x = new VotedFile(2);
        x.write(1, 5L);
        Steps.exchange(x, 0, 1, 1);
        x.again(1);
        due.is("air(1, 8)", x.air(1, 8), 1);
        due.is("client(1, 5): who has answered stays", x.client(1, 5), 1);
        due.is("deliver(0), as it was sent first", x.deliver(0), true);
        due.is("deliver(1): its answer counts", x.deliver(1), true);
        due.is("client(1, 1)", x.client(1, 1), 2);
        due.is("air(1, 8): a phase that begins has the next", x.air(1, 8), 2);
        due.is("deliver(0), as it was sent anew", x.deliver(0), true);
        due.is("deliver(2): its answer is of round 1", x.deliver(2), true);
        due.is("client(1, 5)", x.client(1, 5), 0);
    }

    private static void promise7FullAir() {
        due.part("promise 7, 'what would be more is lost at once'");
        int[] lying = {293, 294, 299, 300};
        int[] lost = {0, 1, 6, 7};
        for (int i = 0; i < lying.length; i++) {
            VotedFile x = new VotedFile(7);
            Steps.fillAir(x, lying[i]);
            due.is("about(3)", x.about(3), lying[i]);
            due.is("about(5)", x.about(5), 0);
            due.is("again(3) with " + lying[i], x.again(3), 7);
            due.is("about(3) behind it", x.about(3), 300);
            due.is("about(5) behind it", x.about(5), lost[i]);
            due.is("air(299, 1): from copy 0 on", x.air(299, 1), lost[i] == 7 ? 0 : 6 - lost[i]);
        }
    }
}
