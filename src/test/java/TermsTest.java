/** What the document says under 'Terms': quorums, phases that begin anew, BEST, tags, the air's limit. */
public final class TermsTest {
    private static final int NONE = VotedFile.NONE;
    private static final Due due = new Due("TermsTest");

    public static void main(String[] args) {
        weightedQuorums();
        copiesWithoutVotes();
        phaseOneBeginsAnewByBase();
        bestStaysWhenAPhaseBeginsAnew();
        lastAloneWantsMoreTables();
        baseInPhaseTwoDoesNotBeginAnew();
        changeCarriesTheValueOver();
        changeWantsWOfTheOldTable();
        actOfChangerBetweenTwoTables();
        nextAndActiveNeverGoBack();
        tagsAreHeldAgainstEachOther();
        answersTellWhatWasThen();
        sidesPartWriters();
        airIsFull();
        clockIsAheadOfWhatIsDone();
        due.end();
    }

    private static void pass(VotedFile x, int kind, int copy, int client, int phase) {
        String name = (kind == 0 ? "request to" : "answer of") + " copy " + copy + ", client " + client;
        due.is(name + " in phase " + phase + " is delivered", Steps.pass(x, kind, copy, client, phase), true);
    }

    private static void exchange(VotedFile x, int copy, int client, int phase) {
        pass(x, 0, copy, client, phase);
        pass(x, 1, copy, client, phase);
    }

    private static void weightedQuorums() {
        due.part("weighted quorums");
        VotedFile x = new VotedFile(4);
        x.votes(0, 4);
        x.votes(1, 2);
        due.is("change(2, 7) of 8 votes", x.change(2, 7), 1);
        due.is("settle(100)", x.settle(100), 24);
        due.is("read(0)", x.read(0), 2);
        exchange(x, 3, 0, 1);
        due.is("one vote is not R", x.client(0, 1), 1);
        exchange(x, 2, 0, 1);
        due.is("two votes are R", x.client(0, 1), 2);
        exchange(x, 3, 0, 2);
        exchange(x, 2, 0, 2);
        exchange(x, 0, 0, 2);
        due.is("six votes are not W", x.client(0, 0), 2);
        due.is("client(0, 5)", x.client(0, 5), 13);
        exchange(x, 1, 0, 2);
        due.is("eight votes are W", x.client(0, 0), NONE);
        due.is("write(0, 5)", x.write(0, 5L), 3);
        loseOld(x);
        exchange(x, 0, 0, 1);
        due.is("four votes are R at once", x.client(0, 1), 2);
    }

    /** Takes away what is no longer waited for. */
    private static void loseOld(VotedFile x) {
        int newest = x.about(2);
        for (int k = x.about(3) - 1; k >= 0; k--) {
            if (x.air(k, 3) < newest) {
                x.lose(k);
            }
        }
    }

    private static void copiesWithoutVotes() {
        due.part("copies without votes");
        VotedFile x = new VotedFile(3);
        x.votes(0, 0);
        x.votes(1, 0);
        x.votes(2, 1);
        due.is("change(1, 1)", x.change(1, 1), 1);
        due.is("settle(100)", x.settle(100), 18);
        x.write(0, 3L);
        exchange(x, 0, 0, 1);
        exchange(x, 1, 0, 1);
        due.is("two without votes are no quorum", x.client(0, 1), 1);
        exchange(x, 2, 0, 1);
        due.is("the one with a vote is", x.client(0, 1), 2);
        exchange(x, 2, 0, 2);
        due.is("alone too", x.client(0, 0), NONE);
    }

    private static void phaseOneBeginsAnewByBase() {
        due.part("phase 1 begins anew");
        VotedFile x = new VotedFile(3);
        x.change(2, 2);
        x.settle(100);
        due.is("write(1, 6)", x.write(1, 6L), 2);
        exchange(x, 1, 1, 1);
        due.is("client(1, 1)", x.client(1, 1), 1);
        due.is("client(1, 2)", x.client(1, 2), 1);
        due.is("client(1, 3)", x.client(1, 3), 1);
        due.is("client(1, 5): nobody has answered", x.client(1, 5), 0);
        due.is("about(3): two old, three new", x.about(3), 5);
        due.is("air(1, 8)", x.air(1, 8), 1);
        for (int c = 0; c < 3; c++) {
            due.is("air(" + (2 + c) + ", 1)", x.air(2 + c, 1), c);
            due.is("air(" + (2 + c) + ", 4)", x.air(2 + c, 4), 1);
            due.is("air(" + (2 + c) + ", 8)", x.air(2 + c, 8), 2);
        }
        pass(x, 0, 0, 1, 1);
        pass(x, 1, 0, 1, 1);
        due.is("an answer of round 1 counts no more", x.client(1, 5), 0);
        due.is("settle(100)", x.settle(100), 14);
        due.is("act(2, 4)", x.act(2, 4), 1);
        due.is("kept(0)", x.kept(0), 6L);
    }

    /** The answer that told of a new BASE told of a value too, which nobody else need tell again. */
    private static void bestStaysWhenAPhaseBeginsAnew() {
        due.part("BEST stays");
        VotedFile x = new VotedFile(3);
        due.is("write(0, 90)", x.write(0, 90L), 1);
        exchange(x, 0, 0, 1);
        exchange(x, 1, 0, 1);
        due.is("client(0, 1)", x.client(0, 1), 2);
        pass(x, 0, 0, 0, 2);
        due.is("kept(0)", x.kept(0), 90L);
        x.halt(0);
        Steps.loseAll(x);
        due.is("change(2, 2)", x.change(2, 2), 2);
        exchange(x, 1, 0, 3);
        exchange(x, 2, 0, 3);
        exchange(x, 1, 0, 4);
        exchange(x, 2, 0, 4);
        pass(x, 0, 0, 0, 5);
        due.is("copy(0, 2)", x.copy(0, 2), 1);
        due.is("copy(1, 2)", x.copy(1, 2), 0);
        due.is("act(2, 4): neither of them had it", x.act(2, 4), 0);
        Steps.loseAll(x);
        due.is("read(1)", x.read(1), 3);
        exchange(x, 0, 1, 1);
        due.is("client(1, 2)", x.client(1, 2), 1);
        due.is("client(1, 5)", x.client(1, 5), 0);
        Steps.loseAll(x);
        due.is("again(1)", x.again(1), 3);
        due.is("air(0, 8)", x.air(0, 8), 2);
        exchange(x, 1, 1, 1);
        exchange(x, 2, 1, 1);
        due.is("client(1, 1)", x.client(1, 1), 2);
        int last = x.about(3) - 1;
        due.is("air: what is stored has BEST of round 1", x.air(last, 5), 1);
        due.is("air: what is stored has BEST of round 1", x.air(last, 6), 1);
        exchange(x, 1, 1, 2);
        exchange(x, 2, 1, 2);
        due.is("value(3)", x.value(3), 90L);
        due.is("kept(1)", x.kept(1), 90L);
        due.is("kept(2)", x.kept(2), 90L);
    }

    private static void lastAloneWantsMoreTables() {
        due.part("LAST alone rises");
        VotedFile x = new VotedFile(3);
        x.votes(2, 5);
        due.is("change(3, 5) of 7 votes", x.change(3, 5), 1);
        pass(x, 0, 0, 0, 3);
        due.is("copy(0, 3)", x.copy(0, 3), 1);
        due.is("read(1)", x.read(1), 2);
        exchange(x, 0, 1, 1);
        due.is("client(1, 2)", x.client(1, 2), 0);
        due.is("client(1, 3)", x.client(1, 3), 1);
        due.is("client(1, 5): it goes on", x.client(1, 5), 1);
        exchange(x, 1, 1, 1);
        due.is("R of table 0 but not of table 1", x.client(1, 1), 1);
        exchange(x, 2, 1, 1);
        due.is("R of both", x.client(1, 1), 2);
        exchange(x, 2, 1, 2);
        due.is("W of table 1 but not of table 0", x.client(1, 1), 2);
        exchange(x, 0, 1, 2);
        due.is("W of both", x.client(1, 0), NONE);
    }

    private static void baseInPhaseTwoDoesNotBeginAnew() {
        due.part("BASE rises in phase 2");
        VotedFile x = new VotedFile(3);
        due.is("write(1, 4)", x.write(1, 4L), 1);
        exchange(x, 0, 1, 1);
        exchange(x, 1, 1, 1);
        due.is("client(1, 1)", x.client(1, 1), 2);
        x.votes(0, 3);
        due.is("change(2, 4) of 5 votes", x.change(2, 4), 2);
        for (int phase = 3; phase <= 5; phase++) {
            for (int c = 0; c < 3; c++) {
                if (x.client(0, 1) == phase) {
                    exchange(x, c, 0, phase);
                }
            }
        }
        due.is("client(0, 0)", x.client(0, 0), NONE);
        due.is("copy(0, 2)", x.copy(0, 2), 1);
        int before = x.about(3);
        exchange(x, 1, 1, 2);
        due.is("client(1, 2)", x.client(1, 2), 1);
        due.is("client(1, 3)", x.client(1, 3), 1);
        due.is("client(1, 1)", x.client(1, 1), 2);
        due.is("client(1, 5): it goes on", x.client(1, 5), 2);
        due.is("about(3): nothing is sent", x.about(3), before - 1);
        exchange(x, 2, 1, 2);
        due.is("W of table 0, which is wanted no more", x.client(1, 1), 2);
        exchange(x, 0, 1, 2);
        due.is("W of table 1", x.client(1, 1), 0);
        due.is("act(1, 3)", x.act(1, 3), x.about(4));
    }

    private static void changeCarriesTheValueOver() {
        due.part("a change carries the value over");
        VotedFile x = new VotedFile(3);
        x.silent(2, true);
        due.is("write(2, 66)", x.write(2, 66L), 1);
        x.settle(100);
        Steps.loseAll(x);
        x.silent(2, false);
        x.silent(0, true);
        x.votes(0, 0);
        x.votes(1, 0);
        due.is("change(1, 1): copy 2 alone", x.change(1, 1), 2);
        x.settle(100);
        due.is("act(2, 4)", x.act(2, 4), 1);
        due.is("act(2, 5)", x.act(2, 5), 1);
        due.is("client(0, 0)", x.client(0, 0), NONE);
        due.is("kept(2)", x.kept(2), 66L);
        due.is("value(2)", x.value(2), 0L);
        x.silent(1, true);
        due.is("read(0)", x.read(0), 3);
        x.settle(100);
        due.is("value(3)", x.value(3), 66L);
    }

    private static void changeWantsWOfTheOldTable() {
        due.part("a change wants W of the old table");
        VotedFile x = new VotedFile(4);
        due.is("change(1, 4)", x.change(1, 4), 1);
        x.settle(100);
        x.silent(3, true);
        due.is("change(2, 3)", x.change(2, 3), 2);
        x.settle(100);
        due.is("three of four are not W of table 1", x.client(0, 1), 3);
        due.is("client(0, 5)", x.client(0, 5), 7);
        x.silent(3, false);
        x.settle(2);
        due.is("all four are", x.client(0, 1), 4);
        x.silent(0, true);
        x.settle(100);
        due.is("three are W of table 2", x.client(0, 0), NONE);
        due.is("client(0, 2)", x.client(0, 2), 2);
        due.is("copy(0, 2) is silent", x.copy(0, 2), 1);
        due.is("copy(0, 3)", x.copy(0, 3), 2);
    }

    private static void actOfChangerBetweenTwoTables() {
        due.part("an act of client 0 between two tables");
        VotedFile x = new VotedFile(3);
        x.votes(0, 3);
        due.is("change(3, 3) of 5 votes", x.change(3, 3), 1);
        due.is("halt(0)", x.halt(0), 1);
        Steps.loseAll(x);
        due.is("write(0, 7)", x.write(0, 7L), 2);
        exchange(x, 0, 0, 1);
        due.is("R of table 1 but not of table 0", x.client(0, 1), 1);
        exchange(x, 1, 0, 1);
        due.is("R of both", x.client(0, 1), 2);
        exchange(x, 1, 0, 2);
        exchange(x, 2, 0, 2);
        due.is("W of table 0 but not of table 1", x.client(0, 1), 2);
        exchange(x, 0, 0, 2);
        due.is("W of both", x.client(0, 1), 0);
        due.is("copy(0, 3): none was told of table 1", x.copy(0, 3), 0);
    }

    private static void nextAndActiveNeverGoBack() {
        due.part("NEXT and ACTIVE that come late");
        VotedFile x = new VotedFile(1);
        x.change(1, 1);
        x.twice(0);
        x.deliver(0);
        x.deliver(1);
        pass(x, 0, 0, 0, 4);
        pass(x, 1, 0, 0, 4);
        due.is("client(0, 1)", x.client(0, 1), 5);
        x.twice(1);
        pass(x, 0, 0, 0, 5);
        pass(x, 1, 0, 0, 5);
        due.is("client(0, 0)", x.client(0, 0), NONE);
        due.is("air(0, 4)", x.air(0, 4), 3);
        due.is("air(1, 4)", x.air(1, 4), 5);
        x.change(1, 1);
        while (x.client(0, 0) != NONE) {
            due.is("deliver(2)", x.deliver(2), true);
        }
        due.is("copy(0, 2)", x.copy(0, 2), 2);
        due.is("deliver(1): ACTIVE 1", x.deliver(1), true);
        due.is("deliver(0): NEXT 1", x.deliver(0), true);
        due.is("copy(0, 2)", x.copy(0, 2), 2);
        due.is("copy(0, 3)", x.copy(0, 3), 2);
        due.is("air(1, 7): the answer has the copy's LAST", x.air(1, 7), 2);
        VotedFile y = new VotedFile(3);
        y.change(2, 2);
        exchange(y, 0, 0, 3);
        exchange(y, 1, 0, 3);
        exchange(y, 0, 0, 4);
        exchange(y, 1, 0, 4);
        pass(y, 0, 2, 0, 5);
        due.is("ACTIVE sets LAST too", y.copy(2, 3), 1);
        due.is("and BASE", y.copy(2, 2), 1);
    }

    private static void tagsAreHeldAgainstEachOther() {
        due.part("tags");
        VotedFile x = new VotedFile(3);
        x.write(0, 100L);
        x.write(1, 101L);
        for (int client = 0; client <= 1; client++) {
            exchange(x, 0, client, 1);
            exchange(x, 1, client, 1);
        }
        due.is("act(1, 4)", x.act(1, 4), 1);
        due.is("act(2, 4)", x.act(2, 4), 1);
        pass(x, 0, 0, 1, 2);
        pass(x, 0, 0, 0, 2);
        due.is("kept(0): 1, 2 is above 1, 1", x.kept(0), 101L);
        pass(x, 0, 1, 0, 2);
        due.is("kept(1)", x.kept(1), 100L);
        pass(x, 0, 1, 1, 2);
        due.is("kept(1): 1, 2 is above 1, 1", x.kept(1), 101L);
        x.settle(100);
        due.is("write(2, 102)", x.write(2, 102L), 3);
        x.settle(100);
        due.is("act(3, 4)", x.act(3, 4), 2);
        due.is("act(3, 5)", x.act(3, 5), 3);
        x.read(0);
        x.write(1, 103L);
        x.settle(0);
        exchange(x, 0, 1, 1);
        exchange(x, 1, 1, 1);
        due.is("act(5, 4)", x.act(5, 4), 3);
        x.settle(100);
        due.is("kept(2)", x.kept(2), 103L);
    }

    private static void answersTellWhatWasThen() {
        due.part("answers tell what was then");
        VotedFile x = new VotedFile(1);
        x.read(1);
        x.deliver(0);
        x.write(2, 8L);
        x.deliver(1);
        x.deliver(1);
        x.deliver(1);
        x.deliver(1);
        due.is("act(2, 3)", x.act(2, 3), 7);
        due.is("air(0, 5)", x.air(0, 5), 0);
        due.is("deliver(0)", x.deliver(0), true);
        due.is("air(0, 4)", x.air(0, 4), 2);
        due.is("air(0, 5): BEST of the answer, not of the copy", x.air(0, 5), 0);
        x.settle(10);
        due.is("value(1): phase 2's answers are no BEST", x.value(1), 0L);
        due.is("act(1, 4)", x.act(1, 4), 0);
        due.is("kept(0)", x.kept(0), 8L);
    }

    private static void sidesPartWriters() {
        due.part("sides part");
        VotedFile x = new VotedFile(5);
        for (int c = 0; c < 2; c++) {
            x.side(c, 1);
        }
        x.side(11, 1);
        x.write(1, 1L);
        x.write(2, 2L);
        x.settle(1000);
        due.is("act(1, 3): two of five", x.act(1, 3), NONE);
        due.is("act(2, 3): three of five", x.act(2, 3) != NONE, true);
        due.is("client(1, 5)", x.client(1, 5), 3);
        x.side(0, 0);
        x.side(1, 0);
        x.side(11, 0);
        x.settle(1000);
        due.is("act(1, 4)", x.act(1, 4), 2);
        due.is("kept(4)", x.kept(4), 1L);
        due.is("about(3)", x.about(3), 0);
    }

    private static void airIsFull() {
        due.part("300 in the air");
        VotedFile x = new VotedFile(7);
        for (int i = 0; i < 42; i++) {
            x.write(1, i);
            x.halt(1);
        }
        due.is("about(3)", x.about(3), 294);
        x.write(1, 50L);
        due.is("about(3)", x.about(3), 300);
        due.is("about(5)", x.about(5), 1);
        due.is("air(299, 1): copies from 0 on", x.air(299, 1), 5);
        due.is("air(299, 3)", x.air(299, 3), 43);
        for (int k = 294; k < 298; k++) {
            due.is("deliver(294)", x.deliver(294), true);
        }
        due.is("about(3)", x.about(3), 300);
        due.is("air(296, 0)", x.air(296, 0), 1);
        for (int k = 0; k < 3; k++) {
            due.is("deliver(296)", x.deliver(296), true);
        }
        due.is("about(3)", x.about(3), 297);
        due.is("deliver(296): the fourth answer", x.deliver(296), true);
        due.is("client(1, 1)", x.client(1, 1), 2);
        due.is("about(3)", x.about(3), 300);
        due.is("about(5): three of seven are lost", x.about(5), 4);
        due.is("air(299, 1)", x.air(299, 1), 3);
        due.is("air(300, 0)", x.air(300, 0), NONE);
        due.is("settle(all)", x.settle(10000), 294 * 2 + 4 * 2 + 2 * 2);
        due.is("act(43, 3)", x.act(43, 3) != NONE, true);
        due.is("about(5)", x.about(5), 4);
        due.is("about(3)", x.about(3), 0);
        due.is("kept(3)", x.kept(3), 50L);
        due.is("kept(4)", x.kept(4), 0L);
    }

    private static void clockIsAheadOfWhatIsDone() {
        due.part("the clock");
        VotedFile x = new VotedFile(1);
        x.read(0);
        due.is("act(1, 2)", x.act(1, 2), 1);
        x.again(0);
        x.twice(0);
        x.lose(2);
        x.lose(1);
        x.silent(0, true);
        x.deliver(0);
        x.settle(5);
        x.silent(0, false);
        x.side(0, 1);
        x.side(0, 0);
        x.votes(0, 2);
        due.is("about(4)", x.about(4), 1);
        x.deliver(0);
        x.deliver(0);
        x.deliver(0);
        due.is("about(4)", x.about(4), 4);
        x.deliver(0);
        due.is("act(1, 3)", x.act(1, 3), 5);
        x.write(3, 1L);
        x.halt(3);
        due.is("about(4)", x.about(4), 7);
        due.is("act(2, 2)", x.act(2, 2), 6);
        x.settle(10);
        due.is("about(4)", x.about(4), 9);
    }
}
