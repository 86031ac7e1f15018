/** Promises 8 to 14: each sentence of the document that names a boundary has a test of its own here. */
public final class Boundaries8To14Test {
    private static final int NONE = VotedFile.NONE;
    private static final int[] FAR = Steps.FAR;
    private static final Due due = new Due("Boundaries8To14Test");

    public static void main(String[] args) {
        promise8NoneSuch();
        promise8SilentCopy();
        promise8OtherSide();
        promise8ThereNoMore();
        promise8FullAir();
        promise8AnswerToAnotherAct();
        promise8AnswerOfAnotherRound();
        promise8FirstOfEachCopyAlone();
        promise8StoreOfATagThatIsNotGreater();
        promise8NextThatIsNotMore();
        promise8ActiveThatIsNotMore();
        promise8AnswerAsThingsAreThen();
        promise8ClockAheadOfWhatItDoes();
        promise9BelowZero();
        promise9Zero();
        promise9AtMostNTimes();
        promise9NothingThatCanBe();
        promise9FromTheFirstOnBehindEach();
        promise9FullAir();
        promise10NoneSuch();
        promise10FirstAndLast();
        promise10WhatCantBeDelivered();
        promise10FullAir();
        promise11NoneSuch();
        promise11ThreeHundred();
        promise11BehindAll();
        promise11OnceMoreInAll();
        promise12NoneSuch();
        promise12OrNot();
        promise12KeepsAllThatItHas();
        promise12ToAndFrom();
        promise13NoneSuch();
        promise13NoSuchSide();
        promise13EachOnEachSide();
        promise13BetweenThoseOnOneSide();
        promise14HasNone();
        promise14NoneSuch();
        promise14WithoutItsBeingDone();
        promise14WhatItSentIsThere();
        promise14EachPhase();
        due.end();
    }

    // ---- promise 8

    private static void promise8NoneSuch() {
        due.part("promise 8, 'false, doing nothing: there is none such'");
        State empty = new State(due, 3, x -> { });
        State three = new State(due, 3, x -> x.write(0, 6L));
        State full = new State(due, 7, x -> Steps.fillAir(x, 300));
        for (int k : new int[] {-2, -1, 0, 1, 299, 300}) {
            empty.answersFalse("deliver(" + k + ") of nothing", x -> x.deliver(k));
        }
        for (int k : new int[] {-1, 3, 4, 299, 300}) {
            three.answersFalse("deliver(" + k + ") of three", x -> x.deliver(k));
        }
        for (int k : new int[] {-1, 300, 301}) {
            full.answersFalse("deliver(" + k + ") of 300", x -> x.deliver(k));
        }
        for (int far : FAR) {
            three.answersFalse("deliver(" + far + ") of three", x -> x.deliver(far));
        }
        for (int k = 0; k < 3; k++) {
            VotedFile x = new VotedFile(3);
            x.write(0, 6L);
            due.is("deliver(" + k + ") of three", x.deliver(k), true);
        }
    }

    private static void promise8SilentCopy() {
        due.part("promise 8, 'or it can't be': a SILENT COPY");
        new State(due, 2, x -> {
            x.write(0, 6L);
            x.silent(1, true);
        }).answersFalse("deliver(1), a request", x -> x.deliver(1));
        new State(due, 2, x -> {
            x.write(0, 6L);
            x.deliver(1);
            x.silent(1, true);
        }).answersFalse("deliver(1), an answer", x -> x.deliver(1));
        VotedFile x = new VotedFile(2);
        x.write(0, 6L);
        x.silent(1, true);
        due.is("deliver(0) to the other", x.deliver(0), true);
        x.silent(1, false);
        due.is("deliver(0) to the one that was silent", x.deliver(0), true);
    }

    private static void promise8OtherSide() {
        due.part("promise 8, 'or it can't be': another side");
        new State(due, 2, x -> {
            x.write(0, 6L);
            x.side(1, 1);
        }).answersFalse("deliver(1) to a copy on another side", x -> x.deliver(1));
        new State(due, 2, x -> {
            x.write(0, 6L);
            x.side(10, 3);
        }).answersFalse("deliver(1) from a client on another side", x -> x.deliver(1));
        new State(due, 2, x -> {
            x.write(0, 6L);
            x.deliver(1);
            x.side(10, 2);
        }).answersFalse("deliver(1), an answer to another side", x -> x.deliver(1));
        VotedFile x = new VotedFile(2);
        x.write(0, 6L);
        x.side(10, 2);
        x.side(1, 2);
        due.is("deliver(1) on side 2", x.deliver(1), true);
        x.side(11, 1);
        due.is("deliver(1): another client's side is nothing to it", x.deliver(1), true);
        due.is("deliver(0)", x.deliver(0), false);
    }

    private static void promise8ThereNoMore() {
        due.part("promise 8, 'is delivered, and is there no more'");
        for (int k = 0; k < 4; k++) {
            VotedFile x = new VotedFile(4);
            x.read(0);
            x.deliver(k);
            due.is("about(3): the answer in its stead", x.about(3), 4);
            for (int j = 0; j < 3; j++) {
                due.is("air(" + j + ", 1) behind deliver(" + k + ")", x.air(j, 1), j < k ? j : j + 1);
            }
            due.is("air(3, 0) behind all", x.air(3, 0), 1);
            due.is("air(3, 1)", x.air(3, 1), k);
            due.is("deliver(3), the answer", x.deliver(3), true);
            due.is("about(3)", x.about(3), 3);
            due.is("air(3, 0)", x.air(3, 0), NONE);
        }
    }

    private static void promise8FullAir() {
        due.part("promise 8, '300 at most; what would be more is lost at once'");
        VotedFile x = new VotedFile(7);
        Steps.fillAir(x, 300);
        due.is("deliver(299): its answer has its room", x.deliver(299), true);
        due.is("about(3)", x.about(3), 300);
        due.is("about(5)", x.about(5), 0);
        due.is("air(299, 0)", x.air(299, 0), 1);
        due.is("deliver(299), the first answer", x.deliver(299), true);
        for (int c = 1; c <= 3; c++) {
            due.is("deliver(" + c + ")", x.deliver(1), true);
        }
        due.is("about(3)", x.about(3), 299);
        due.is("deliver(296)", x.deliver(296), true);
        due.is("deliver(296)", x.deliver(296), true);
        due.is("twice(0)", x.twice(0), true);
        due.is("twice(0)", x.twice(0), true);
        due.is("twice(0)", x.twice(0), true);
        due.is("about(3)", x.about(3), 300);
        due.is("client(3, 5)", x.client(3, 5), 7);
        due.is("deliver(296): the fourth answer ends phase 1", x.deliver(296), true);
        due.is("client(3, 1)", x.client(3, 1), 2);
        due.is("about(3): one of seven has room", x.about(3), 300);
        due.is("about(5)", x.about(5), 6);
        due.is("air(299, 1)", x.air(299, 1), 0);
        due.is("air(299, 4)", x.air(299, 4), 2);
    }

    private static void promise8AnswerToAnotherAct() {
        due.part("promise 8, 'an ANSWER .. counts if it is one to this ACT's REQUEST'");
        VotedFile x = new VotedFile(1);
        x.write(1, 5L);
        x.deliver(0);
        x.halt(1);
        x.write(1, 6L);
        due.is("deliver(0): the ended act's answer, of round 1 too", x.deliver(0), true);
        due.is("client(1, 5)", x.client(1, 5), 0);
        due.is("client(1, 1)", x.client(1, 1), 1);
        due.is("about(4)", x.about(4), 5);
        due.is("about(3)", x.about(3), 1);
        VotedFile y = new VotedFile(1);
        y.read(1);
        y.deliver(0);
        y.halt(1);
        due.is("deliver(0) to a client without an act", y.deliver(0), true);
        due.is("about(3)", y.about(3), 0);
        due.is("about(4)", y.about(4), 4);
        due.is("client(1, 5)", y.client(1, 5), 0);
    }

    private static void promise8AnswerOfAnotherRound() {
        due.part("promise 8, 'of this ROUND'");
        VotedFile x = new VotedFile(3);
        x.change(2, 2);
        x.settle(100);
        x.write(1, 5L);
        x.deliver(0);
        x.deliver(0);
        x.deliver(0);
        due.is("deliver(0): BASE 1, the phase begins anew", x.deliver(0), true);
        due.is("client(1, 2)", x.client(1, 2), 1);
        due.is("deliver(0): an answer of round 1", x.deliver(0), true);
        due.is("deliver(0): another", x.deliver(0), true);
        due.is("client(1, 5)", x.client(1, 5), 0);
        due.is("client(1, 1)", x.client(1, 1), 1);
        due.is("about(3): three requests of round 2", x.about(3), 3);
        VotedFile y = new VotedFile(3);
        y.write(1, 5L);
        y.settle(5);
        due.is("client(1, 1)", y.client(1, 1), 2);
        due.is("air(0, 4)", y.air(0, 4), 1);
        due.is("deliver(0): an answer of phase 1", y.deliver(0), true);
        due.is("client(1, 5)", y.client(1, 5), 0);
    }

    private static void promise8FirstOfEachCopyAlone() {
        due.part("promise 8, '(the first of each COPY)'");
        VotedFile x = new VotedFile(3);
        x.write(1, 5L);
        x.twice(0);
        x.deliver(0);
        x.deliver(2);
        x.twice(2);
        due.is("about(3): copy 0's answer three times", x.about(3), 5);
        for (int i = 0; i < 3; i++) {
            due.is("deliver(2)", x.deliver(2), true);
            due.is("client(1, 5)", x.client(1, 5), 1);
            due.is("client(1, 1): one copy is no quorum", x.client(1, 1), 1);
        }
        VotedFile y = new VotedFile(3);
        y.write(1, 5L);
        y.settle(6);
        y.halt(1);
        Steps.loseAll(y);
        y.read(2);
        y.twice(0);
        y.deliver(0);
        y.write(3, 9L);
        Steps.exchange(y, 1, 3, 1);
        Steps.exchange(y, 2, 3, 1);
        Steps.pass(y, 0, 0, 3, 2);
        due.is("kept(0)", y.kept(0), 9L);
        Steps.pass(y, 0, 0, 2, 1);
        Steps.pass(y, 1, 0, 2, 1);
        Steps.pass(y, 1, 0, 2, 1);
        Steps.exchange(y, 1, 2, 1);
        due.is("client(2, 1)", y.client(2, 1), 2);
        due.is("air(last, 5): the second answer of copy 0 is no BEST", y.air(y.about(3) - 1, 5), 0);
    }

    private static void promise8StoreOfATagThatIsNotGreater() {
        due.part("promise 8, 'it keeps VALUE and TAG, if the TAG is greater than its own'");
        VotedFile x = new VotedFile(1);
        x.write(0, 10L);
        x.write(1, 11L);
        x.settle(4);
        x.twice(0);
        due.is("deliver(1): tag 1, 2", x.deliver(1), true);
        due.is("kept(0)", x.kept(0), 11L);
        due.is("deliver(0): tag 1, 1", x.deliver(0), true);
        due.is("kept(0)", x.kept(0), 11L);
        due.is("copy(0, 1)", x.copy(0, 1), 2);
        due.is("air(last, 6): its answer has the copy's own", x.air(x.about(3) - 1, 6), 2);
        VotedFile y = new VotedFile(1);
        y.read(0);
        y.settle(2);
        y.write(1, 3L);
        Steps.exchange(y, 0, 1, 1);
        Steps.exchange(y, 0, 1, 2);
        due.is("deliver(0): tag 0, 0", y.deliver(0), true);
        due.is("kept(0)", y.kept(0), 3L);
        due.is("copy(0, 0)", y.copy(0, 0), 1);
    }

    /** Of a change to table 1 and one to table 2 copy 2 hears in the order that is told. */
    private static VotedFile lateNextAndActive() {
        VotedFile x = new VotedFile(3);
        x.side(2, 1);
        x.change(2, 2);
        x.settle(100);
        x.change(2, 2);
        x.settle(100);
        x.side(2, 0);
        for (int k = x.about(3) - 1; k >= 0; k--) {
            if (x.air(k, 4) == 4) {
                x.lose(k);
            }
        }
        due.is("about(3): NEXT 1, ACTIVE 1, NEXT 2, ACTIVE 2", x.about(3), 4);
        return x;
    }

    private static void lastAndBase(VotedFile x, String behind, int base, int last) {
        due.is("copy(2, 2) behind " + behind, x.copy(2, 2), base);
        due.is("copy(2, 3) behind " + behind, x.copy(2, 3), last);
        int answer = x.about(3) - 1;
        due.is("air(last, 7) behind " + behind, x.air(answer, 7), last);
        x.lose(answer);
    }

    private static void promise8NextThatIsNotMore() {
        due.part("promise 8, 'NEXT t: its LAST is t, if that is less'");
        VotedFile x = lateNextAndActive();
        x.deliver(2);
        lastAndBase(x, "NEXT 2", 0, 2);
        x.deliver(0);
        lastAndBase(x, "NEXT 1", 0, 2);
        VotedFile y = lateNextAndActive();
        y.deliver(0);
        lastAndBase(y, "NEXT 1", 0, 1);
        y.deliver(1);
        lastAndBase(y, "NEXT 2", 0, 2);
    }

    private static void promise8ActiveThatIsNotMore() {
        due.part("promise 8, 'ACTIVE t: its BASE is t, its LAST too, if they are less'");
        VotedFile x = lateNextAndActive();
        x.deliver(2);
        lastAndBase(x, "NEXT 2", 0, 2);
        x.deliver(1);
        lastAndBase(x, "ACTIVE 1: BASE is less, LAST is not", 1, 2);
        x.deliver(1);
        lastAndBase(x, "ACTIVE 2", 2, 2);
        x.deliver(0);
        lastAndBase(x, "NEXT 1", 2, 2);
        VotedFile y = lateNextAndActive();
        y.deliver(3);
        lastAndBase(y, "ACTIVE 2: both are less", 2, 2);
        y.deliver(1);
        lastAndBase(y, "ACTIVE 1: neither is", 2, 2);
        VotedFile z = lateNextAndActive();
        z.deliver(1);
        lastAndBase(z, "ACTIVE 1 without NEXT", 1, 1);
    }

    private static void promise8AnswerAsThingsAreThen() {
        due.part("promise 8, 'with its TAG, VALUE, BASE, LAST as they are then'");
        VotedFile x = new VotedFile(1);
        x.read(1);
        x.deliver(0);
        x.write(2, 44L);
        x.change(1, 1);
        Steps.exchange(x, 0, 2, 1);
        Steps.exchange(x, 0, 2, 2);
        for (int phase = 3; phase <= 5; phase++) {
            Steps.exchange(x, 0, 0, phase);
        }
        due.is("copy(0, 0)", x.copy(0, 0), 1);
        due.is("copy(0, 2)", x.copy(0, 2), 1);
        due.is("air(0, 5)", x.air(0, 5), 0);
        due.is("air(0, 7)", x.air(0, 7), 0);
        due.is("deliver(0): the answer of before", x.deliver(0), true);
        due.is("client(1, 2)", x.client(1, 2), 0);
        due.is("client(1, 3)", x.client(1, 3), 0);
        due.is("client(1, 1)", x.client(1, 1), 2);
        due.is("air(0, 5): BEST of before", x.air(0, 5), 0);
    }

    private static void promise8ClockAheadOfWhatItDoes() {
        due.part("promise 8, THE CLOCK is '1 more with .. each REQUEST or ANSWER that is delivered' ahead of it");
        VotedFile x = new VotedFile(1);
        x.read(0);
        for (int clock = 2; clock <= 5; clock++) {
            due.is("act(1, 3)", x.act(1, 3), NONE);
            x.deliver(0);
            due.is("about(4)", x.about(4), clock);
        }
        due.is("act(1, 3)", x.act(1, 3), 5);
        due.is("deliver(0) of nothing", x.deliver(0), false);
        due.is("about(4)", x.about(4), 5);
    }

    // ---- promise 9

    private static void promise9BelowZero() {
        due.part("promise 9, 'NONE if n is below 0'");
        State empty = new State(due, 3, x -> { });
        State some = new State(due, 3, x -> x.write(0, 6L));
        for (int n : new int[] {-1, -2, -300, Integer.MIN_VALUE, Integer.MIN_VALUE + 1}) {
            empty.answersNone("settle(" + n + ") of nothing", x -> x.settle(n));
            some.answersNone("settle(" + n + ")", x -> x.settle(n));
        }
    }

    private static void promise9Zero() {
        due.part("promise 9, 'at most n times' of 0");
        VotedFile x = new VotedFile(3);
        due.is("settle(0) of nothing", x.settle(0), 0);
        x.write(0, 6L);
        due.is("settle(0)", x.settle(0), 0);
        new State(due, 3, y -> y.write(0, 6L)).doesNothing("settle(0)", y -> y.settle(0));
    }

    private static void promise9AtMostNTimes() {
        due.part("promise 9, 'at most n times: how many were'");
        for (int n = 1; n <= 14; n++) {
            VotedFile x = new VotedFile(3);
            x.write(0, 6L);
            int delivered = Math.min(n, 12);
            due.is("settle(" + n + ")", x.settle(n), delivered);
            due.is("about(4) behind settle(" + n + ")", x.about(4), 1 + delivered);
            due.is("the rest behind settle(" + n + ")", x.settle(100), 12 - delivered);
        }
        VotedFile y = new VotedFile(3);
        y.write(0, 6L);
        due.is("settle(max)", y.settle(Integer.MAX_VALUE), 12);
        due.is("settle(max) of nothing", y.settle(Integer.MAX_VALUE), 0);
        due.is("settle(1) of nothing", y.settle(1), 0);
    }

    private static void promise9NothingThatCanBe() {
        due.part("promise 9, 'all that can be delivered'");
        State silent = new State(due, 2, x -> {
            x.write(0, 6L);
            x.silent(0, true);
            x.side(1, 1);
        });
        silent.doesNothing("settle(100) of what can't be", x -> x.settle(100));
        VotedFile x = new VotedFile(2);
        x.write(0, 6L);
        x.silent(0, true);
        x.side(1, 1);
        due.is("settle(100)", x.settle(100), 0);
        x.side(10, 1);
        due.is("settle(100) with copy 1", x.settle(100), 2);
        due.is("about(3): what can't be stays", x.about(3), 1);
        due.is("air(0, 1)", x.air(0, 1), 0);
    }

    private static void promise9FromTheFirstOnBehindEach() {
        due.part("promise 9, 'From the first on .. again from the first on behind each'");
        for (int n = 0; n <= 40; n++) {
            VotedFile x = parted();
            VotedFile y = parted();
            int settled = x.settle(n);
            int delivered = 0;
            while (delivered < n && deliverFirst(y)) {
                delivered++;
            }
            due.is("settle(" + n + ")", settled, delivered);
            due.is("about(3)", x.about(3), y.about(3));
            for (int k = 0; k < x.about(3); k++) {
                for (int what = 0; what <= 8; what++) {
                    due.is("air(" + k + ", " + what + ") behind " + n, x.air(k, what), y.air(k, what));
                }
            }
            due.is("about(4) behind " + n, x.about(4), y.about(4));
        }
    }

    private static boolean deliverFirst(VotedFile x) {
        int lying = x.about(3);
        for (int k = 0; k < lying; k++) {
            if (x.deliver(k)) {
                return true;
            }
        }
        return false;
    }

    private static VotedFile parted() {
        VotedFile x = new VotedFile(4);
        x.silent(1, true);
        x.side(12, 1);
        x.write(2, 7L);
        x.read(1);
        x.write(3, 8L);
        return x;
    }

    private static void promise9FullAir() {
        due.part("promise 9, of 300");
        VotedFile x = new VotedFile(7);
        Steps.fillAir(x, 300);
        due.is("settle(300): each has its answer", x.settle(300), 300);
        due.is("about(3)", x.about(3), 300);
        due.is("air(0, 0)", x.air(0, 0), 1);
        due.is("settle(max)", x.settle(Integer.MAX_VALUE), 300 + 4 * 2);
        due.is("about(3)", x.about(3), 0);
        due.is("about(5): the fourth answer left room for four", x.about(5), 3);
        due.is("act(1, 3)", x.act(1, 3) != NONE, true);
    }

    // ---- promise 10

    private static void promise10NoneSuch() {
        due.part("promise 10, 'false if there is none such'");
        State empty = new State(due, 3, x -> { });
        State three = new State(due, 3, x -> x.write(0, 6L));
        State full = new State(due, 7, x -> Steps.fillAir(x, 300));
        for (int k : new int[] {-2, -1, 0, 1, 299, 300}) {
            empty.answersFalse("lose(" + k + ") of nothing", x -> x.lose(k));
        }
        for (int k : new int[] {-1, 3, 4, 299, 300}) {
            three.answersFalse("lose(" + k + ") of three", x -> x.lose(k));
        }
        for (int k : new int[] {-1, 300, 301}) {
            full.answersFalse("lose(" + k + ") of 300", x -> x.lose(k));
        }
        for (int far : FAR) {
            three.answersFalse("lose(" + far + ") of three", x -> x.lose(far));
        }
    }

    private static void promise10FirstAndLast() {
        due.part("promise 10, 'What lies at k .. is lost'");
        for (int k = 0; k < 4; k++) {
            VotedFile x = new VotedFile(4);
            x.write(0, 6L);
            due.is("lose(" + k + ")", x.lose(k), true);
            due.is("about(3)", x.about(3), 3);
            due.is("about(4)", x.about(4), 1);
            due.is("about(5): not for want of room", x.about(5), 0);
            for (int j = 0; j < 3; j++) {
                due.is("air(" + j + ", 1) behind lose(" + k + ")", x.air(j, 1), j < k ? j : j + 1);
            }
            due.is("air(3, 0)", x.air(3, 0), NONE);
            x.settle(100);
            due.is("copy(k, 0): phase 2 has a request of its own", x.copy(k, 0), 1);
            due.is("lose(0) of nothing", x.lose(0), false);
        }
        VotedFile y = new VotedFile(1);
        y.write(0, 6L);
        y.lose(0);
        due.is("settle(100): nobody asks any more", y.settle(100), 0);
        due.is("client(0, 1)", y.client(0, 1), 1);
    }

    private static void promise10WhatCantBeDelivered() {
        due.part("promise 10, of what can't be delivered");
        VotedFile x = new VotedFile(2);
        x.write(0, 6L);
        x.silent(0, true);
        x.side(1, 3);
        due.is("lose(1), on another side", x.lose(1), true);
        due.is("lose(0), of a silent one", x.lose(0), true);
        due.is("about(3)", x.about(3), 0);
        due.is("act(1, 3)", x.act(1, 3), NONE);
        due.is("client(0, 0)", x.client(0, 0), 1);
    }

    private static void promise10FullAir() {
        due.part("promise 10, of 300");
        VotedFile x = new VotedFile(7);
        Steps.fillAir(x, 300);
        due.is("lose(299)", x.lose(299), true);
        due.is("lose(299) once more", x.lose(299), false);
        due.is("lose(0)", x.lose(0), true);
        due.is("about(3)", x.about(3), 298);
        due.is("air(0, 1)", x.air(0, 1), 1);
        due.is("air(297, 1)", x.air(297, 1), 0);
        due.is("air(298, 1)", x.air(298, 1), NONE);
        due.is("about(5)", x.about(5), 0);
    }

    // ---- promise 11

    private static void promise11NoneSuch() {
        due.part("promise 11, 'false, doing nothing: there is none such'");
        State empty = new State(due, 3, x -> { });
        State three = new State(due, 3, x -> x.write(0, 6L));
        for (int k : new int[] {-2, -1, 0, 1, 299, 300}) {
            empty.answersFalse("twice(" + k + ") of nothing", x -> x.twice(k));
        }
        for (int k : new int[] {-1, 3, 4, 299, 300}) {
            three.answersFalse("twice(" + k + ") of three", x -> x.twice(k));
        }
        for (int far : FAR) {
            three.answersFalse("twice(" + far + ") of three", x -> x.twice(far));
        }
    }

    private static void promise11ThreeHundred() {
        due.part("promise 11, 'or 300'");
        State full = new State(due, 7, x -> Steps.fillAir(x, 300));
        for (int k : new int[] {-1, 0, 1, 150, 299, 300}) {
            full.answersFalse("twice(" + k + ") of 300", x -> x.twice(k));
        }
        VotedFile x = new VotedFile(7);
        Steps.fillAir(x, 299);
        due.is("twice(298) of 299", x.twice(298), true);
        due.is("about(3)", x.about(3), 300);
        due.is("twice(298) of 300", x.twice(298), false);
        due.is("about(5): nothing was lost", x.about(5), 0);
        x.lose(0);
        due.is("twice(0) of 299", x.twice(0), true);
    }

    private static void promise11BehindAll() {
        due.part("promise 11, 'lies there once more, behind all'");
        for (int k = 0; k < 4; k++) {
            VotedFile x = new VotedFile(4);
            x.write(0, 6L);
            due.is("twice(" + k + ")", x.twice(k), true);
            due.is("about(3)", x.about(3), 5);
            due.is("about(4)", x.about(4), 1);
            for (int j = 0; j < 5; j++) {
                due.is("air(" + j + ", 1) behind twice(" + k + ")", x.air(j, 1), j < 4 ? j : k);
            }
        }
        VotedFile y = new VotedFile(1);
        y.write(0, 6L);
        y.silent(0, true);
        due.is("twice(0) of what can't be delivered", y.twice(0), true);
    }

    private static void promise11OnceMoreInAll() {
        due.part("promise 11, all that it has lies there once more");
        VotedFile x = new VotedFile(1);
        x.write(3, 6L);
        x.settle(4);
        x.change(1, 1);
        for (int step = 0; step < 6; step++) {
            x.twice(0);
            for (int what = 0; what <= 8; what++) {
                due.is("air(1, " + what + ") in step " + step, x.air(1, what), x.air(0, what));
            }
            x.lose(0);
            due.is("deliver(0), the second", x.deliver(0), true);
        }
        due.is("act(2, 3)", x.act(2, 3), x.about(4));
        due.is("act(2, 4)", x.act(2, 4), 1);
        x.read(1);
        while (x.client(1, 0) != NONE) {
            x.twice(0);
            x.lose(0);
            due.is("deliver(0), the second", x.deliver(0), true);
        }
        due.is("client(1, 2): the second answer's BASE", x.client(1, 2), 1);
        due.is("value(3): the second answer's VALUE", x.value(3), 6L);
        VotedFile y = new VotedFile(2);
        y.change(1, 2);
        y.deliver(0);
        Steps.pass(y, 0, 1, 0, 3);
        Steps.loseAll(y);
        y.read(1);
        y.deliver(0);
        y.twice(1);
        due.is("air(2, 0): an answer in a row where none was", y.air(2, 0), 1);
        y.lose(1);
        due.is("deliver(1): the second answer, BASE 0 and LAST 1", y.deliver(1), true);
        due.is("client(1, 2)", y.client(1, 2), 0);
        due.is("client(1, 3)", y.client(1, 3), 1);
        due.is("client(1, 5)", y.client(1, 5), 1);
    }

    // ---- promise 12

    private static void promise12NoneSuch() {
        due.part("promise 12, 'false if there is none such'");
        for (int n : new int[] {1, 3, 7}) {
            State state = new State(due, n, x -> x.write(1, 4L));
            for (int copy : new int[] {-2, -1, n, n + 1, 8, 10}) {
                state.answersFalse("silent(" + copy + ", true) of " + n, x -> x.silent(copy, true));
                state.answersFalse("silent(" + copy + ", false) of " + n, x -> x.silent(copy, false));
            }
            for (int far : FAR) {
                state.answersFalse("silent(" + far + ", true) of " + n, x -> x.silent(far, true));
            }
            due.is("silent(n - 1, true) of " + n, new VotedFile(n).silent(n - 1, true), true);
            due.is("silent(0, false) of " + n, new VotedFile(n).silent(0, false), true);
        }
    }

    private static void promise12OrNot() {
        due.part("promise 12, 'A COPY is SILENT, or not: true'");
        VotedFile x = new VotedFile(2);
        boolean[] told = {false, true, true, false, false, true};
        for (boolean is : told) {
            due.is("silent(1, " + is + ")", x.silent(1, is), true);
            due.is("copy(1, 4)", x.copy(1, 4), is ? 1 : 0);
            due.is("copy(0, 4)", x.copy(0, 4), 0);
        }
        due.is("about(4)", x.about(4), 0);
        VotedFile all = new VotedFile(7);
        for (int c = 0; c < 7; c++) {
            due.is("silent(" + c + ", true)", all.silent(c, true), true);
        }
        all.read(0);
        due.is("about(3): it is sent all the same", all.about(3), 7);
        due.is("settle(100) with all silent", all.settle(100), 0);
    }

    private static void promise12KeepsAllThatItHas() {
        due.part("promise 12, 'a SILENT one keeps all that it has'");
        VotedFile x = new VotedFile(1);
        x.write(0, 18L);
        x.settle(4);
        x.change(1, 1);
        x.settle(5);
        x.side(0, 2);
        int[] want = {1, 1, 1, 1, 0, 2};
        for (int turn = 0; turn < 3; turn++) {
            want[4] = turn % 2;
            for (int what = 0; what <= 5; what++) {
                due.is("copy(0, " + what + ") in turn " + turn, x.copy(0, what), want[what]);
            }
            due.is("kept(0)", x.kept(0), 18L);
            x.silent(0, turn == 0);
        }
        due.is("about(3): what it sent stays", x.about(3), 1);
    }

    private static void promise12ToAndFrom() {
        due.part("promise 12, 'to and from no COPY that is SILENT'");
        VotedFile x = new VotedFile(3);
        x.write(0, 18L);
        x.deliver(1);
        x.silent(1, true);
        x.silent(2, true);
        due.is("deliver(1), a request to copy 2", x.deliver(1), false);
        due.is("deliver(2), an answer of copy 1", x.deliver(2), false);
        due.is("deliver(0), a request to copy 0", x.deliver(0), true);
        x.silent(1, false);
        due.is("deliver(1), the answer of copy 1", x.deliver(1), true);
        due.is("client(0, 5)", x.client(0, 5), 2);
        due.is("deliver(0), a request to copy 2", x.deliver(0), false);
    }

    // ---- promise 13

    private static void promise13NoneSuch() {
        due.part("promise 13, 'false, doing nothing, if there is none such'");
        for (int n : new int[] {1, 3, 7}) {
            State state = new State(due, n, x -> x.write(1, 4L));
            for (int whose = n; whose < 10; whose++) {
                int none = whose;
                state.answersFalse("side(" + none + ", 1) of " + n, x -> x.side(none, 1));
            }
            for (int whose : new int[] {-11, -10, -2, -1, 14, 15, 20, Integer.MIN_VALUE + 9, Integer.MIN_VALUE + 10,
                Integer.MIN_VALUE + 13}) {
                state.answersFalse("side(" + whose + ", 1) of " + n, x -> x.side(whose, 1));
            }
            for (int far : FAR) {
                state.answersFalse("side(" + far + ", 1) of " + n, x -> x.side(far, 1));
            }
        }
    }

    private static void promise13NoSuchSide() {
        due.part("promise 13, 'on a side (0 .. 3 ..)'");
        State state = new State(due, 2, x -> {
            x.side(1, 2);
            x.side(13, 2);
            x.write(1, 4L);
        });
        for (int side : new int[] {-2, -1, 4, 5, 10}) {
            for (int whose : new int[] {0, 1, 10, 13, 2, 14}) {
                state.answersFalse("side(" + whose + ", " + side + ")", x -> x.side(whose, side));
            }
        }
        for (int far : FAR) {
            state.answersFalse("side(1, " + far + ")", x -> x.side(1, far));
            state.answersFalse("side(13, " + far + ")", x -> x.side(13, far));
        }
    }

    private static void promise13EachOnEachSide() {
        due.part("promise 13, 'A COPY (0 ..) or CLIENT (10 ..) is on a side: true'");
        VotedFile x = new VotedFile(7);
        for (int side = 3; side >= 0; side--) {
            for (int c = 0; c < 7; c++) {
                due.is("side(" + c + ", " + side + ")", x.side(c, side), true);
                due.is("copy(" + c + ", 5)", x.copy(c, 5), side);
            }
            for (int c = 0; c < 4; c++) {
                due.is("side(" + (10 + c) + ", " + side + ")", x.side(10 + c, side), true);
                due.is("client(" + c + ", 4)", x.client(c, 4), side);
            }
        }
        x.side(3, 2);
        x.side(12, 1);
        for (int c = 0; c < 7; c++) {
            due.is("copy(" + c + ", 5): copy 3 alone", x.copy(c, 5), c == 3 ? 2 : 0);
        }
        for (int c = 0; c < 4; c++) {
            due.is("client(" + c + ", 4): client 2 alone", x.client(c, 4), c == 2 ? 1 : 0);
        }
        due.is("about(4)", x.about(4), 0);
    }

    private static void promise13BetweenThoseOnOneSide() {
        due.part("promise 13, 'is delivered only between those on one side'");
        for (int mine = 0; mine < 4; mine++) {
            for (int yours = 0; yours < 4; yours++) {
                VotedFile x = new VotedFile(1);
                x.side(11, mine);
                x.side(0, yours);
                x.read(1);
                due.is("a request from " + mine + " to " + yours, x.deliver(0), mine == yours);
                VotedFile y = new VotedFile(1);
                y.read(1);
                y.deliver(0);
                y.side(11, mine);
                y.side(0, yours);
                due.is("an answer from " + yours + " to " + mine, y.deliver(0), mine == yours);
            }
        }
    }

    // ---- promise 14

    private static void promise14HasNone() {
        due.part("promise 14, 'NONE if it has none'");
        State fresh = new State(due, 3, x -> { });
        State others = new State(due, 2, x -> {
            for (int c = 0; c < 3; c++) {
                x.write(c, c);
            }
        });
        for (int c = 0; c < 4; c++) {
            int client = c;
            fresh.answersNone("halt(" + client + ") of a new object", x -> x.halt(client));
            new State(due, 1, x -> {
                x.write(client, 5L);
                x.settle(4);
            }).answersNone("halt(" + client + ") behind what is done", x -> x.halt(client));
            new State(due, 1, x -> {
                x.write(client, 5L);
                x.halt(client);
            }).answersNone("halt(" + client + ") once more", x -> x.halt(client));
        }
        others.answersNone("halt(3) while the others write", x -> x.halt(3));
    }

    private static void promise14NoneSuch() {
        due.part("promise 14, 'or there is none such'");
        State state = new State(due, 2, x -> {
            for (int c = 0; c < 4; c++) {
                x.write(c, c);
            }
        });
        for (int client : new int[] {-2, -1, 4, 5, 10, 13}) {
            state.answersNone("halt(" + client + ")", x -> x.halt(client));
        }
        for (int far : FAR) {
            state.answersNone("halt(" + far + ")", x -> x.halt(far));
        }
    }

    private static void promise14WithoutItsBeingDone() {
        due.part("promise 14, 'ends its ACT without its being done'");
        VotedFile x = new VotedFile(1);
        x.read(0);
        x.write(1, 5L);
        due.is("halt(1)", x.halt(1), 2);
        due.is("about(4)", x.about(4), 3);
        due.is("act(2, 3)", x.act(2, 3), NONE);
        due.is("client(1, 0)", x.client(1, 0), NONE);
        due.is("client(0, 0): the other's goes on", x.client(0, 0), 1);
        x.settle(100);
        due.is("act(2, 3)", x.act(2, 3), NONE);
        due.is("act(1, 3)", x.act(1, 3) != NONE, true);
        due.is("kept(0): it was not stored", x.kept(0), 0L);
        due.is("about(2): it stays written down", x.about(2), 2);
        due.is("act(2, 0)", x.act(2, 0), 1);
    }

    private static void promise14WhatItSentIsThere() {
        due.part("promise 14, '(what it stored may be there)'");
        VotedFile x = new VotedFile(1);
        x.write(1, 5L);
        x.settle(2);
        due.is("halt(1) in phase 2", x.halt(1), 1);
        due.is("about(3): its request is still on its way", x.about(3), 1);
        due.is("kept(0)", x.kept(0), 0L);
        due.is("deliver(0)", x.deliver(0), true);
        due.is("kept(0)", x.kept(0), 5L);
        due.is("deliver(0), its answer", x.deliver(0), true);
        due.is("act(1, 3)", x.act(1, 3), NONE);
        x.read(2);
        x.settle(100);
        due.is("value(2)", x.value(2), 5L);
    }

    private static void promise14EachPhase() {
        due.part("promise 14, 'the ACT's number that is ended' in each PHASE");
        int[] phases = {3, 3, 4, 4, 5, 5};
        for (int steps = 0; steps < 6; steps++) {
            VotedFile x = new VotedFile(1);
            x.read(2);
            x.halt(2);
            Steps.loseAll(x);
            x.change(1, 1);
            x.settle(steps);
            due.is("client(0, 1)", x.client(0, 1), phases[steps]);
            due.is("halt(0)", x.halt(0), 2);
            due.is("about(4)", x.about(4), 2 + 1 + steps + 1);
            due.is("client(0, 1)", x.client(0, 1), 0);
            due.is("client(0, 5)", x.client(0, 5), 0);
            due.is("client(0, 3)", x.client(0, 3), 1);
            due.is("client(0, 2)", x.client(0, 2), steps < 4 ? 0 : 1);
            due.is("act(2, 3)", x.act(2, 3), NONE);
            x.settle(100);
            due.is("client(0, 2): nothing goes on", x.client(0, 2), steps < 4 ? 0 : 1);
        }
    }
}
