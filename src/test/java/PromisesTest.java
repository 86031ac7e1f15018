/** One part for each promise of the document: ordinary inputs, the edges it names, wrong inputs. */
public final class PromisesTest {
    private static final int NONE = VotedFile.NONE;
    private static final int[] FAR = Steps.FAR;
    private static final Due due = new Due("PromisesTest");

    public static void main(String[] args) {
        promise1NewObject();
        promise2Votes();
        promise3Change();
        promise3ChangeRefused();
        promise3SixteenTables();
        promise4Resume();
        promise5Read();
        promise6Write();
        promise7Again();
        promise8Deliver();
        promise9Settle();
        promise10Lose();
        promise11Twice();
        promise12Silent();
        promise13Side();
        promise14Halt();
        promise15Copy();
        promise16Kept();
        promise17Client();
        promise18Air();
        promise19Act();
        promise20Value();
        promise21Table();
        promise22About();
        due.end();
    }

    private static void promise1NewObject() {
        due.part("promise 1, a new object");
        due.is("NONE", NONE, -1);
        int[] asked = {Integer.MIN_VALUE, -1, 0, 1, 2, 3, 4, 5, 6, 7, 8, 100, Integer.MAX_VALUE};
        int[] made = {1, 1, 1, 1, 2, 3, 4, 5, 6, 7, 7, 7, 7};
        for (int i = 0; i < asked.length; i++) {
            VotedFile x = new VotedFile(asked[i]);
            int n = made[i];
            due.is("about(0) of " + asked[i], x.about(0), n);
            due.is("about(1)", x.about(1), 1);
            for (int what = 2; what <= 5; what++) {
                due.is("about(" + what + ")", x.about(what), 0);
            }
            for (int c = 0; c < 7; c++) {
                due.is("table(0, " + c + ")", x.table(0, c), c < n ? 1 : NONE);
                for (int what = 0; what <= 5; what++) {
                    due.is("copy(" + c + ", " + what + ")", x.copy(c, what), c < n ? 0 : NONE);
                }
                due.is("kept(" + c + ")", x.kept(c), 0L);
            }
            due.is("table(0, 7) of " + n, x.table(0, 7), n / 2 + 1);
            due.is("table(0, 8) of " + n, x.table(0, 8), n / 2 + 1);
            for (int c = 0; c < 4; c++) {
                due.is("client(" + c + ", 0)", x.client(c, 0), NONE);
                for (int what = 1; what <= 5; what++) {
                    due.is("client(" + c + ", " + what + ")", x.client(c, what), 0);
                }
            }
        }
    }

    private static void promise2Votes() {
        due.part("promise 2, votes");
        VotedFile x = new VotedFile(3);
        due.is("votes(0, 9)", x.votes(0, 9), true);
        due.is("votes(1, 0)", x.votes(1, 0), true);
        due.is("votes(3, 1)", x.votes(3, 1), false);
        due.is("votes(-1, 1)", x.votes(-1, 1), false);
        due.is("votes(2, 10)", x.votes(2, 10), false);
        due.is("votes(2, -1)", x.votes(2, -1), false);
        for (int far : FAR) {
            due.is("votes(" + far + ", 1)", x.votes(far, 1), false);
            due.is("votes(0, " + far + ")", x.votes(0, far), false);
        }
        due.is("table(0, 0) is not changed", x.table(0, 0), 1);
        due.is("about(1)", x.about(1), 1);
        due.is("about(4)", x.about(4), 0);
        due.is("change(5, 6)", x.change(5, 6), 1);
        due.is("table(1, 0)", x.table(1, 0), 9);
        due.is("table(1, 1)", x.table(1, 1), 0);
        due.is("table(1, 2)", x.table(1, 2), 1);
        due.is("votes(0, 2) while a change is under way", x.votes(0, 2), true);
        due.is("table(1, 0) stays", x.table(1, 0), 9);
        x.settle(100);
        due.is("votes(1, 4)", x.votes(1, 4), true);
        due.is("change(4, 4): 2 + 4 + 1 votes, the others stay as told", x.change(4, 4), 2);
        due.is("table(2, 0)", x.table(2, 0), 2);
        due.is("table(2, 1)", x.table(2, 1), 4);
        due.is("table(2, 2)", x.table(2, 2), 1);
        due.is("table(1, 1) stays", x.table(1, 1), 0);
        VotedFile y = new VotedFile(1);
        due.is("votes(0, 0)", y.votes(0, 0), true);
        due.is("votes(1, 0)", y.votes(1, 0), false);
        due.is("change(1, 1) of no votes at all", y.change(1, 1), NONE);
        due.is("change(0, 0) of no votes at all", y.change(0, 0), NONE);
    }

    private static void promise3Change() {
        due.part("promise 3, change");
        VotedFile x = new VotedFile(3);
        x.write(1, 50L);
        x.settle(100);
        int clock = x.about(4);
        due.is("change(1, 3)", x.change(1, 3), 2);
        due.is("about(1)", x.about(1), 2);
        due.is("about(2)", x.about(2), 2);
        due.is("about(4)", x.about(4), clock + 1);
        due.is("about(3)", x.about(3), 3);
        due.is("client(0, 0)", x.client(0, 0), 2);
        due.is("client(0, 1)", x.client(0, 1), 3);
        due.is("client(0, 2)", x.client(0, 2), 0);
        due.is("client(0, 3)", x.client(0, 3), 1);
        due.is("act(2, 6)", x.act(2, 6), 1);
        due.is("settle(4)", x.settle(4), 4);
        due.is("client(0, 1) with one answer", x.client(0, 1), 3);
        due.is("settle(1)", x.settle(1), 1);
        due.is("client(0, 1) with two answers, W of table 0", x.client(0, 1), 4);
        due.is("settle(1) drops the third answer", x.settle(1), 1);
        due.is("settle(5)", x.settle(5), 5);
        due.is("client(0, 1) wants W of table 1", x.client(0, 1), 4);
        due.is("client(0, 2)", x.client(0, 2), 0);
        due.is("settle(1)", x.settle(1), 1);
        due.is("client(0, 1)", x.client(0, 1), 5);
        due.is("client(0, 2) as phase 5 begins", x.client(0, 2), 1);
        due.is("copy(0, 2)", x.copy(0, 2), 0);
        due.is("copy(0, 3)", x.copy(0, 3), 1);
        due.is("settle(100)", x.settle(100), 6);
        due.is("client(0, 0)", x.client(0, 0), NONE);
        due.is("act(2, 3)", x.act(2, 3), clock + 19);
        due.is("about(4)", x.about(4), clock + 19);
        for (int c = 0; c < 3; c++) {
            due.is("copy(" + c + ", 2)", x.copy(c, 2), 1);
            due.is("copy(" + c + ", 3)", x.copy(c, 3), 1);
        }
    }

    private static void promise3ChangeRefused() {
        due.part("promise 3, change that can't be so");
        VotedFile x = new VotedFile(4);
        int[][] wrong = {{0, 4}, {4, 0}, {-1, 4}, {4, -1}, {5, 4}, {4, 5}, {1, 3}, {2, 2}, {3, 2}, {4, 2},
            {Integer.MAX_VALUE, Integer.MAX_VALUE}, {Integer.MIN_VALUE, 4}, {4, Integer.MIN_VALUE},
            {Integer.MAX_VALUE, 3}, {3, Integer.MAX_VALUE}};
        for (int[] rw : wrong) {
            due.is("change(" + rw[0] + ", " + rw[1] + ")", x.change(rw[0], rw[1]), NONE);
        }
        due.is("about(1)", x.about(1), 1);
        due.is("about(2)", x.about(2), 0);
        due.is("about(3)", x.about(3), 0);
        due.is("about(4)", x.about(4), 0);
        due.is("client(0, 3)", x.client(0, 3), 0);
        due.is("read(0)", x.read(0), 1);
        due.is("change(2, 3) while a read is under way", x.change(2, 3), NONE);
        due.is("about(1)", x.about(1), 1);
        due.is("halt(0)", x.halt(0), 1);
        due.is("change(2, 3)", x.change(2, 3), 2);
        due.is("change(2, 3) while a change is under way", x.change(2, 3), NONE);
        due.is("halt(0)", x.halt(0), 2);
        due.is("change(2, 3) behind one that was ended", x.change(2, 3), NONE);
        due.is("about(1)", x.about(1), 2);
        VotedFile y = new VotedFile(4);
        due.is("change(4, 4)", y.change(4, 4), 1);
        VotedFile z = new VotedFile(4);
        due.is("change(1, 4)", z.change(1, 4), 1);
        VotedFile full = new VotedFile(1);
        for (int a = 1; a <= 200; a++) {
            full.read(1);
            full.halt(1);
        }
        due.is("change(1, 1) with 200 acts", full.change(1, 1), NONE);
        due.is("about(1)", full.about(1), 1);
        due.is("client(0, 3)", full.client(0, 3), 0);
    }

    private static void promise3SixteenTables() {
        due.part("promise 3, sixteen tables");
        VotedFile x = new VotedFile(2);
        for (int t = 1; t <= 15; t++) {
            due.is("change(1, 2)", x.change(1, 2), t);
            due.is("settle(100)", x.settle(100), 12);
            due.is("copy(1, 2)", x.copy(1, 2), t);
        }
        due.is("about(1)", x.about(1), 16);
        due.is("change(1, 2) with 16 tables", x.change(1, 2), NONE);
        due.is("about(1)", x.about(1), 16);
        due.is("about(2)", x.about(2), 15);
        due.is("client(0, 3)", x.client(0, 3), 15);
        due.is("table(15, 7)", x.table(15, 7), 1);
        due.is("table(16, 7)", x.table(16, 7), NONE);
        due.is("write(3, 5)", x.write(3, 5L), 16);
        due.is("settle(100)", x.settle(100), 12);
        due.is("client(3, 2)", x.client(3, 2), 15);
        due.is("kept(0)", x.kept(0), 5L);
    }

    private static void promise4Resume() {
        due.part("promise 4, resume");
        VotedFile x = new VotedFile(3);
        due.is("resume() with base and last 0", x.resume(), NONE);
        due.is("about(2)", x.about(2), 0);
        due.is("change(2, 2)", x.change(2, 2), 1);
        due.is("resume() while it is under way", x.resume(), NONE);
        due.is("halt(0)", x.halt(0), 1);
        due.is("read(0)", x.read(0), 2);
        due.is("resume() while a read is under way", x.resume(), NONE);
        due.is("halt(0)", x.halt(0), 2);
        int clock = x.about(4);
        due.is("resume()", x.resume(), 3);
        due.is("act(3, 0)", x.act(3, 0), 2);
        due.is("act(3, 1)", x.act(3, 1), 0);
        due.is("act(3, 2)", x.act(3, 2), clock + 1);
        due.is("act(3, 6)", x.act(3, 6), 1);
        due.is("client(0, 1)", x.client(0, 1), 3);
        due.is("about(1)", x.about(1), 2);
        due.is("air of the last: round", x.air(x.about(3) - 1, 8), 1);
        due.is("air of the last: table", x.air(x.about(3) - 1, 7), 1);
        x.settle(200);
        due.is("client(0, 0)", x.client(0, 0), NONE);
        due.is("client(0, 2)", x.client(0, 2), 1);
        due.is("resume() behind one that is done", x.resume(), NONE);
        due.is("change(2, 2)", x.change(2, 2), 4);
        x.settle(18 - 6);
        due.is("client(0, 1)", x.client(0, 1), 5);
        due.is("halt(0) in phase 5", x.halt(0), 4);
        due.is("resume() with base 2 and last 2", x.resume(), NONE);
        due.is("change(2, 2) is free again", x.change(2, 2), 5);
        VotedFile full = new VotedFile(1);
        full.change(1, 1);
        full.halt(0);
        for (int a = 2; a <= 200; a++) {
            full.read(1);
            full.halt(1);
        }
        due.is("about(2)", full.about(2), 200);
        due.is("resume() with 200 acts", full.resume(), NONE);
        VotedFile nearly = new VotedFile(1);
        nearly.change(1, 1);
        nearly.halt(0);
        for (int a = 2; a <= 199; a++) {
            nearly.read(1);
            nearly.halt(1);
        }
        due.is("resume() with 199 acts", nearly.resume(), 200);
    }

    private static void promise5Read() {
        due.part("promise 5, read");
        VotedFile x = new VotedFile(2);
        for (int c = 0; c < 4; c++) {
            due.is("read(" + c + ")", x.read(c), c + 1);
            due.is("read(" + c + ") under way", x.read(c), NONE);
        }
        due.is("read(4)", x.read(4), NONE);
        due.is("read(-1)", x.read(-1), NONE);
        for (int far : FAR) {
            due.is("read(" + far + ")", x.read(far), NONE);
        }
        due.is("about(2)", x.about(2), 4);
        due.is("about(3)", x.about(3), 8);
        due.is("about(4)", x.about(4), 4);
        due.is("settle(1000)", x.settle(1000), 32);
        due.is("value(3)", x.value(3), 0L);
        due.is("act(3, 4)", x.act(3, 4), 0);
        due.is("act(3, 5)", x.act(3, 5), 0);
        VotedFile full = new VotedFile(1);
        for (int a = 1; a <= 200; a++) {
            due.is("read(0)", full.read(0), a);
            due.is("settle(4)", full.settle(4), 4);
        }
        due.is("read(0) with 200 acts", full.read(0), NONE);
        due.is("act(200, 2)", full.act(200, 2), 996);
        due.is("act(200, 3)", full.act(200, 3), 1000);
        due.is("about(2)", full.about(2), 200);
        due.is("about(3)", full.about(3), 0);
        due.is("about(4)", full.about(4), 1000);
        due.is("client(0, 0)", full.client(0, 0), NONE);
        readStoresBack();
    }

    /** A read makes what it read safe: the copies that had less have it when it is done. */
    private static void readStoresBack() {
        VotedFile x = new VotedFile(3);
        x.write(0, 31L);
        x.settle(5);
        due.is("client(0, 1)", x.client(0, 1), 2);
        x.settle(1);
        due.is("deliver(0) stores in copy 0", x.deliver(0), true);
        due.is("kept(0)", x.kept(0), 31L);
        x.halt(0);
        for (int k = x.about(3) - 1; k >= 0; k--) {
            x.lose(k);
        }
        x.silent(2, true);
        due.is("read(1)", x.read(1), 2);
        due.is("settle(100)", x.settle(100), 8);
        due.is("value(2)", x.value(2), 31L);
        due.is("kept(1)", x.kept(1), 31L);
        due.is("copy(1, 0)", x.copy(1, 0), 1);
        due.is("copy(1, 1)", x.copy(1, 1), 1);
        due.is("kept(2)", x.kept(2), 0L);
    }

    private static void promise6Write() {
        due.part("promise 6, write");
        VotedFile x = new VotedFile(3);
        due.is("write(0, min)", x.write(0, Long.MIN_VALUE), 1);
        due.is("write(0, 1) under way", x.write(0, 1L), NONE);
        due.is("write(4, 1)", x.write(4, 1L), NONE);
        due.is("write(-1, 1)", x.write(-1, 1L), NONE);
        for (int far : FAR) {
            due.is("write(" + far + ", 1)", x.write(far, 1L), NONE);
        }
        due.is("about(2)", x.about(2), 1);
        due.is("about(4)", x.about(4), 1);
        due.is("settle(100)", x.settle(100), 12);
        due.is("kept(2)", x.kept(2), Long.MIN_VALUE);
        due.is("write(3, max)", x.write(3, Long.MAX_VALUE), 2);
        due.is("settle(100)", x.settle(100), 12);
        due.is("kept(0)", x.kept(0), Long.MAX_VALUE);
        due.is("copy(0, 0)", x.copy(0, 0), 2);
        due.is("copy(0, 1)", x.copy(0, 1), 2);
        due.is("act(2, 0)", x.act(2, 0), 1);
        due.is("act(2, 1)", x.act(2, 1), 3);
        due.is("write(1, 7)", x.write(1, 7L), 3);
        due.is("write(2, 8)", x.write(2, 8L), 4);
        due.is("settle(100)", x.settle(100), 24);
        due.is("both have asked ahead of the other's storing: first", x.act(3, 4), 3);
        due.is("both have asked ahead of the other's storing: second", x.act(4, 4), 3);
        due.is("the greater act's number stays", x.kept(1), 8L);
        due.is("copy(1, 1)", x.copy(1, 1), 4);
        VotedFile full = new VotedFile(1);
        for (int a = 1; a <= 200; a++) {
            due.is("write(2, " + a + ")", full.write(2, a), a);
            due.is("halt(2)", full.halt(2), a);
        }
        due.is("write(2, 1) with 200 acts", full.write(2, 1L), NONE);
        due.is("value(200)", full.value(200), 200L);
        due.is("value(201)", full.value(201), 0L);
        due.is("about(2)", full.about(2), 200);
        due.is("about(4)", full.about(4), 400);
        due.is("about(3)", full.about(3), 200);
    }

    private static void promise7Again() {
        due.part("promise 7, again");
        VotedFile x = new VotedFile(3);
        due.is("again(0) without an act", x.again(0), NONE);
        due.is("again(-1)", x.again(-1), NONE);
        due.is("again(4)", x.again(4), NONE);
        for (int far : FAR) {
            due.is("again(" + far + ")", x.again(far), NONE);
        }
        due.is("write(0, 3)", x.write(0, 3L), 1);
        due.is("again(0)", x.again(0), 3);
        due.is("about(3)", x.about(3), 6);
        due.is("about(4) stays", x.about(4), 1);
        due.is("air(5, 8) is the same round", x.air(5, 8), 1);
        due.is("air(5, 1)", x.air(5, 1), 2);
        due.is("deliver(1)", x.deliver(1), true);
        due.is("deliver(5)", x.deliver(5), true);
        due.is("client(0, 5)", x.client(0, 5), 2);
        due.is("again(0) to those that have not answered", x.again(0), 2);
        due.is("air(5, 1)", x.air(5, 1), 0);
        due.is("air(6, 1)", x.air(6, 1), 2);
        due.is("deliver(5)", x.deliver(5), true);
        due.is("deliver(6): its answer counts", x.deliver(6), true);
        due.is("client(0, 1)", x.client(0, 1), 2);
        due.is("again(0) in phase 2", x.again(0), 3);
        int last = x.about(3) - 1;
        due.is("air: phase", x.air(last, 4), 2);
        due.is("air: tag", x.air(last, 5), 1);
        due.is("air: tag", x.air(last, 6), 1);
        due.is("air: round", x.air(last, 8), 2);
        due.is("deliver(last)", x.deliver(last), true);
        due.is("kept(2)", x.kept(2), 3L);
        x.halt(0);
        due.is("again(0) behind a halt", x.again(0), NONE);
        againWithoutRoom();
        againOfAChange();
    }

    private static void againWithoutRoom() {
        VotedFile x = new VotedFile(7);
        x.read(0);
        for (int i = 0; i < 41; i++) {
            due.is("again(0)", x.again(0), 7);
        }
        due.is("about(3)", x.about(3), 294);
        due.is("twice(0)", x.twice(0), true);
        due.is("again(0) with room for 5", x.again(0), 7);
        due.is("about(3)", x.about(3), 300);
        due.is("about(5)", x.about(5), 2);
        due.is("air(299, 1)", x.air(299, 1), 4);
        due.is("again(0) without room", x.again(0), 7);
        due.is("about(5)", x.about(5), 9);
        due.is("about(3)", x.about(3), 300);
    }

    private static void againOfAChange() {
        VotedFile x = new VotedFile(2);
        x.change(1, 2);
        due.is("again(0) in phase 3", x.again(0), 2);
        due.is("air(3, 7)", x.air(3, 7), 1);
        x.settle(6);
        due.is("client(0, 1)", x.client(0, 1), 4);
        x.settle(2);
        due.is("again(0) in phase 4", x.again(0), 2);
        int last = x.about(3) - 1;
        due.is("air: phase", x.air(last, 4), 4);
        due.is("air: table", x.air(last, 7), NONE);
        x.halt(0);
    }

    private static void promise8Deliver() {
        due.part("promise 8, deliver");
        VotedFile x = new VotedFile(3);
        due.is("deliver(0) of nothing", x.deliver(0), false);
        x.read(0);
        due.is("deliver(3)", x.deliver(3), false);
        due.is("deliver(-1)", x.deliver(-1), false);
        for (int far : FAR) {
            due.is("deliver(" + far + ")", x.deliver(far), false);
        }
        due.is("about(4)", x.about(4), 1);
        due.is("deliver(1)", x.deliver(1), true);
        due.is("about(4)", x.about(4), 2);
        due.is("about(3)", x.about(3), 3);
        due.is("air(0, 1)", x.air(0, 1), 0);
        due.is("air(1, 1)", x.air(1, 1), 2);
        due.is("air(2, 1)", x.air(2, 1), 1);
        due.is("air(2, 0)", x.air(2, 0), 1);
        x.silent(0, true);
        due.is("deliver(0) to a silent one", x.deliver(0), false);
        x.silent(1, true);
        due.is("deliver(2) from a silent one", x.deliver(2), false);
        x.side(2, 3);
        due.is("deliver(1) to another side", x.deliver(1), false);
        due.is("about(3)", x.about(3), 3);
        due.is("about(4)", x.about(4), 2);
        x.side(10, 3);
        due.is("deliver(1) on side 3", x.deliver(1), true);
        due.is("deliver(0) to a silent one on another side", x.deliver(0), false);
        x.silent(1, false);
        due.is("deliver(1) from another side", x.deliver(1), false);
        x.side(1, 3);
        due.is("deliver(1)", x.deliver(1), true);
        due.is("client(0, 5)", x.client(0, 5), 2);
        due.is("about(3)", x.about(3), 2);
        deliverOutOfAFullAir();
    }

    /** What is delivered is in the air no more: its answer has the room that it leaves. */
    private static void deliverOutOfAFullAir() {
        VotedFile x = new VotedFile(1);
        x.read(0);
        for (int i = 1; i < 300; i++) {
            due.is("twice(0)", x.twice(0), true);
        }
        due.is("about(3)", x.about(3), 300);
        due.is("deliver(7)", x.deliver(7), true);
        due.is("about(3)", x.about(3), 300);
        due.is("about(5)", x.about(5), 0);
        due.is("air(299, 0)", x.air(299, 0), 1);
        due.is("deliver(299)", x.deliver(299), true);
        due.is("air(299, 4): the request of phase 2 has room", x.air(299, 4), 2);
        due.is("about(5)", x.about(5), 0);
    }

    private static void promise9Settle() {
        due.part("promise 9, settle");
        VotedFile x = new VotedFile(3);
        due.is("settle(-1)", x.settle(-1), NONE);
        due.is("settle(min)", x.settle(Integer.MIN_VALUE), NONE);
        due.is("settle(0)", x.settle(0), 0);
        due.is("settle(max) of nothing", x.settle(Integer.MAX_VALUE), 0);
        x.write(0, 4L);
        x.silent(0, true);
        due.is("settle(0)", x.settle(0), 0);
        due.is("settle(1)", x.settle(1), 1);
        due.is("air(0, 1) waits", x.air(0, 1), 0);
        due.is("air(1, 1) is the next", x.air(1, 1), 2);
        due.is("air(2, 0) is the answer of 1", x.air(2, 0), 1);
        due.is("settle(2)", x.settle(2), 2);
        due.is("client(0, 5)", x.client(0, 5), 2);
        due.is("about(4)", x.about(4), 4);
        due.is("settle(max)", x.settle(Integer.MAX_VALUE), 5);
        due.is("act(1, 3)", x.act(1, 3), 9);
        due.is("settle(10)", x.settle(10), 0);
        due.is("about(3)", x.about(3), 2);
        due.is("about(4)", x.about(4), 9);
        x.silent(0, false);
        due.is("settle(10)", x.settle(10), 4);
        due.is("kept(0)", x.kept(0), 4L);
    }

    private static void promise10Lose() {
        due.part("promise 10, lose");
        VotedFile x = new VotedFile(3);
        due.is("lose(0) of nothing", x.lose(0), false);
        x.write(0, 4L);
        due.is("lose(3)", x.lose(3), false);
        due.is("lose(-1)", x.lose(-1), false);
        for (int far : FAR) {
            due.is("lose(" + far + ")", x.lose(far), false);
        }
        x.silent(1, true);
        x.side(1, 2);
        due.is("lose(1) of what can't be delivered", x.lose(1), true);
        due.is("about(3)", x.about(3), 2);
        due.is("about(4)", x.about(4), 1);
        due.is("about(5)", x.about(5), 0);
        due.is("air(0, 1)", x.air(0, 1), 0);
        due.is("air(1, 1)", x.air(1, 1), 2);
        due.is("lose(1)", x.lose(1), true);
        due.is("settle(10)", x.settle(10), 2);
        due.is("client(0, 5)", x.client(0, 5), 1);
        due.is("lose(0)", x.lose(0), false);
    }

    private static void promise11Twice() {
        due.part("promise 11, twice");
        VotedFile x = new VotedFile(2);
        due.is("twice(0) of nothing", x.twice(0), false);
        x.write(1, 6L);
        due.is("twice(2)", x.twice(2), false);
        due.is("twice(-1)", x.twice(-1), false);
        for (int far : FAR) {
            due.is("twice(" + far + ")", x.twice(far), false);
        }
        due.is("twice(0)", x.twice(0), true);
        due.is("about(3)", x.about(3), 3);
        due.is("about(4)", x.about(4), 1);
        for (int what = 0; what <= 8; what++) {
            due.is("air(2, " + what + ")", x.air(2, what), x.air(0, what));
        }
        due.is("deliver(0)", x.deliver(0), true);
        due.is("twice(2) of an answer", x.twice(2), true);
        due.is("air(3, 0)", x.air(3, 0), 1);
        due.is("deliver(3)", x.deliver(3), true);
        due.is("client(1, 5)", x.client(1, 5), 1);
        due.is("deliver(2): it counts no more", x.deliver(2), true);
        due.is("client(1, 1)", x.client(1, 1), 1);
        due.is("client(1, 5)", x.client(1, 5), 1);
        due.is("settle(100)", x.settle(100), 8);
        due.is("act(1, 3)", x.act(1, 3), 12);
        twiceWithoutRoom();
        twiceKeepsWhatItHolds();
        theSecondTellsAllThatTheFirstDid();
    }

    private static void theSecondTellsAllThatTheFirstDid() {
        VotedFile x = new VotedFile(1);
        x.write(0, 41L);
        due.is("settle(2)", x.settle(2), 2);
        x.twice(0);
        x.lose(0);
        due.is("deliver(0): the second store alone", x.deliver(0), true);
        due.is("kept(0)", x.kept(0), 41L);
        due.is("settle(1)", x.settle(1), 1);
        x.change(1, 1);
        due.is("settle(6)", x.settle(6), 6);
        x.read(1);
        x.deliver(0);
        x.twice(0);
        x.lose(0);
        due.is("air(0, 5)", x.air(0, 5), 1);
        due.is("deliver(0): the second answer alone", x.deliver(0), true);
        due.is("client(1, 2)", x.client(1, 2), 1);
        due.is("client(1, 3)", x.client(1, 3), 1);
        x.deliver(0);
        x.twice(0);
        x.lose(0);
        due.is("settle(10)", x.settle(10), 3);
        due.is("value(3)", x.value(3), 41L);
        due.is("act(3, 5)", x.act(3, 5), 1);
    }

    private static void twiceWithoutRoom() {
        VotedFile x = new VotedFile(1);
        x.read(0);
        for (int i = 1; i < 300; i++) {
            due.is("twice(" + (i - 1) + ")", x.twice(i - 1), true);
        }
        due.is("twice(0) with 300", x.twice(0), false);
        due.is("twice(299) with 300", x.twice(299), false);
        due.is("about(3)", x.about(3), 300);
        due.is("about(5)", x.about(5), 0);
        due.is("lose(299)", x.lose(299), true);
        due.is("twice(298)", x.twice(298), true);
        due.is("about(3)", x.about(3), 300);
    }

    /** A store that comes once more, late, does not put back what was written since. */
    private static void twiceKeepsWhatItHolds() {
        VotedFile x = new VotedFile(1);
        x.write(0, 11L);
        x.settle(2);
        due.is("twice(0) of a store", x.twice(0), true);
        x.side(12, 0);
        due.is("deliver(0)", x.deliver(0), true);
        due.is("deliver(1)", x.deliver(1), true);
        x.write(1, 12L);
        due.is("deliver(1)", x.deliver(1), true);
        due.is("deliver(1)", x.deliver(1), true);
        due.is("deliver(1)", x.deliver(1), true);
        due.is("kept(0)", x.kept(0), 12L);
        due.is("deliver(0): the first store again", x.deliver(0), true);
        due.is("kept(0)", x.kept(0), 12L);
        due.is("air: the answer has the copy's tag", x.air(x.about(3) - 1, 5), 2);
        due.is("air: the answer is to the first act", x.air(x.about(3) - 1, 3), 1);
    }

    private static void promise12Silent() {
        due.part("promise 12, silent");
        VotedFile x = new VotedFile(2);
        x.write(0, 9L);
        x.settle(100);
        due.is("silent(1, true)", x.silent(1, true), true);
        due.is("silent(1, true) once more", x.silent(1, true), true);
        due.is("copy(1, 4)", x.copy(1, 4), 1);
        due.is("copy(0, 4)", x.copy(0, 4), 0);
        due.is("silent(2, true)", x.silent(2, true), false);
        due.is("silent(-1, true)", x.silent(-1, true), false);
        for (int far : FAR) {
            due.is("silent(" + far + ", true)", x.silent(far, true), false);
        }
        due.is("kept(1): it keeps what it has", x.kept(1), 9L);
        due.is("copy(1, 0)", x.copy(1, 0), 1);
        int clock = x.about(4);
        x.read(0);
        due.is("settle(100)", x.settle(100), 2);
        due.is("client(0, 5)", x.client(0, 5), 1);
        due.is("silent(1, false)", x.silent(1, false), true);
        due.is("copy(1, 4)", x.copy(1, 4), 0);
        due.is("about(4)", x.about(4), clock + 3);
        due.is("settle(100)", x.settle(100), 6);
        due.is("value(2)", x.value(2), 9L);
    }

    private static void promise13Side() {
        due.part("promise 13, side");
        VotedFile x = new VotedFile(7);
        for (int c = 0; c < 7; c++) {
            due.is("side(" + c + ", 3)", x.side(c, 3), true);
            due.is("copy(" + c + ", 5)", x.copy(c, 5), 3);
        }
        for (int c = 7; c < 10; c++) {
            due.is("side(" + c + ", 0)", x.side(c, 0), false);
        }
        for (int c = 0; c < 4; c++) {
            due.is("client(" + c + ", 4)", x.client(c, 4), 0);
            due.is("side(" + (10 + c) + ", " + c + ")", x.side(10 + c, c), true);
            due.is("client(" + c + ", 4)", x.client(c, 4), c);
        }
        due.is("side(14, 0)", x.side(14, 0), false);
        due.is("side(-1, 0)", x.side(-1, 0), false);
        due.is("side(0, 4)", x.side(0, 4), false);
        due.is("side(0, -1)", x.side(0, -1), false);
        due.is("side(10, 4)", x.side(10, 4), false);
        due.is("side(10, -1)", x.side(10, -1), false);
        for (int far : FAR) {
            due.is("side(" + far + ", 0)", x.side(far, 0), false);
            due.is("side(1, " + far + ")", x.side(1, far), false);
            due.is("side(13, " + far + ")", x.side(13, far), false);
        }
        due.is("copy(0, 5)", x.copy(0, 5), 3);
        due.is("copy(1, 5)", x.copy(1, 5), 3);
        due.is("client(0, 4)", x.client(0, 4), 0);
        due.is("client(3, 4)", x.client(3, 4), 3);
        x.write(3, 1L);
        x.write(2, 2L);
        due.is("settle(1000): client 3 alone is on their side", x.settle(1000), 28);
        due.is("client(3, 0)", x.client(3, 0), NONE);
        due.is("client(2, 5)", x.client(2, 5), 0);
        VotedFile y = new VotedFile(3);
        due.is("side(3, 1) of three copies", y.side(3, 1), false);
        due.is("side(2, 1) of three copies", y.side(2, 1), true);
    }

    private static void promise14Halt() {
        due.part("promise 14, halt");
        VotedFile x = new VotedFile(2);
        due.is("halt(0) without an act", x.halt(0), NONE);
        due.is("halt(4)", x.halt(4), NONE);
        due.is("halt(-1)", x.halt(-1), NONE);
        for (int far : FAR) {
            due.is("halt(" + far + ")", x.halt(far), NONE);
        }
        due.is("about(4)", x.about(4), 0);
        x.write(2, 5L);
        due.is("settle(5)", x.settle(5), 5);
        due.is("client(2, 1)", x.client(2, 1), 2);
        due.is("kept(0): it is stored", x.kept(0), 5L);
        due.is("settle(2)", x.settle(2), 2);
        due.is("client(2, 5)", x.client(2, 5), 1);
        due.is("halt(2)", x.halt(2), 1);
        due.is("halt(2) once more", x.halt(2), NONE);
        due.is("about(4)", x.about(4), 9);
        due.is("client(2, 0)", x.client(2, 0), NONE);
        due.is("client(2, 1)", x.client(2, 1), 0);
        due.is("client(2, 5)", x.client(2, 5), 0);
        due.is("act(1, 3)", x.act(1, 3), NONE);
        due.is("act(1, 4): it came to phase 2", x.act(1, 4), 1);
        due.is("act(1, 5)", x.act(1, 5), 1);
        due.is("about(3): what it sent is still there", x.about(3), 1);
        due.is("deliver(0): its answer counts no more", x.deliver(0), true);
        due.is("act(1, 3)", x.act(1, 3), NONE);
        due.is("kept(0): what it stored is there", x.kept(0), 5L);
        due.is("read(2)", x.read(2), 2);
        due.is("settle(100)", x.settle(100), 8);
        due.is("value(2)", x.value(2), 5L);
        haltedActsAnswersDoNotCount();
    }

    /** The next act of the same client has round 1 too, but is another act. */
    private static void haltedActsAnswersDoNotCount() {
        VotedFile x = new VotedFile(1);
        x.read(0);
        x.deliver(0);
        x.halt(0);
        x.read(0);
        due.is("air(0, 3)", x.air(0, 3), 1);
        due.is("air(0, 8)", x.air(0, 8), 1);
        due.is("air(1, 8)", x.air(1, 8), 1);
        due.is("deliver(0)", x.deliver(0), true);
        due.is("client(0, 5)", x.client(0, 5), 0);
        due.is("client(0, 1)", x.client(0, 1), 1);
    }

    private static void promise15Copy() {
        due.part("promise 15, copy");
        VotedFile x = new VotedFile(2);
        x.write(3, 8L);
        x.settle(100);
        x.change(1, 2);
        x.deliver(0);
        x.silent(0, true);
        x.side(0, 2);
        int[] want = {1, 1, 0, 1, 1, 2};
        for (int what = 0; what <= 5; what++) {
            due.is("copy(0, " + what + ")", x.copy(0, what), want[what]);
        }
        due.is("copy(1, 3)", x.copy(1, 3), 0);
        due.is("copy(0, 6)", x.copy(0, 6), NONE);
        due.is("copy(0, -1)", x.copy(0, -1), NONE);
        due.is("copy(2, 0)", x.copy(2, 0), NONE);
        due.is("copy(-1, 0)", x.copy(-1, 0), NONE);
        for (int far : FAR) {
            due.is("copy(" + far + ", 0)", x.copy(far, 0), NONE);
            due.is("copy(0, " + far + ")", x.copy(0, far), NONE);
        }
    }

    private static void promise16Kept() {
        due.part("promise 16, kept");
        VotedFile x = new VotedFile(2);
        x.write(0, -5L);
        x.settle(5);
        due.is("kept(0)", x.kept(0), -5L);
        due.is("kept(1)", x.kept(1), 0L);
        x.settle(100);
        due.is("kept(1)", x.kept(1), -5L);
        due.is("kept(2)", x.kept(2), 0L);
        due.is("kept(-1)", x.kept(-1), 0L);
        for (int far : FAR) {
            due.is("kept(" + far + ")", x.kept(far), 0L);
        }
    }

    private static void promise17Client() {
        due.part("promise 17, client");
        VotedFile x = new VotedFile(3);
        x.change(2, 2);
        x.settle(100);
        x.side(12, 0);
        due.is("read(2)", x.read(2), 2);
        due.is("client(2, 0)", x.client(2, 0), 2);
        due.is("client(2, 1)", x.client(2, 1), 1);
        due.is("client(2, 2)", x.client(2, 2), 0);
        due.is("client(2, 3)", x.client(2, 3), 0);
        x.settle(4);
        due.is("client(2, 2) of the first answer", x.client(2, 2), 1);
        due.is("client(2, 3)", x.client(2, 3), 1);
        due.is("client(2, 5): it began anew", x.client(2, 5), 0);
        due.is("deliver(last)", x.deliver(x.about(3) - 1), true);
        due.is("deliver(last)", x.deliver(x.about(3) - 1), true);
        due.is("client(2, 5): copy 2", x.client(2, 5), 4);
        x.side(12, 1);
        due.is("client(2, 4)", x.client(2, 4), 1);
        x.halt(2);
        due.is("client(2, 0)", x.client(2, 0), NONE);
        due.is("client(2, 1)", x.client(2, 1), 0);
        due.is("client(2, 2)", x.client(2, 2), 1);
        due.is("client(2, 5)", x.client(2, 5), 0);
        due.is("client(2, 6)", x.client(2, 6), NONE);
        due.is("client(2, -1)", x.client(2, -1), NONE);
        due.is("client(4, 2)", x.client(4, 2), NONE);
        due.is("client(-1, 2)", x.client(-1, 2), NONE);
        for (int far : FAR) {
            due.is("client(" + far + ", 2)", x.client(far, 2), NONE);
            due.is("client(2, " + far + ")", x.client(2, far), NONE);
        }
    }

    private static void promise18Air() {
        due.part("promise 18, air");
        VotedFile x = new VotedFile(1);
        x.write(3, 70L);
        row(x, 0, new int[] {0, 0, 3, 1, 1, 0, 0, NONE, 1});
        x.deliver(0);
        row(x, 0, new int[] {1, 0, 3, 1, 1, 0, 0, 0, 1});
        x.deliver(0);
        row(x, 0, new int[] {0, 0, 3, 1, 2, 1, 1, NONE, 2});
        x.deliver(0);
        row(x, 0, new int[] {1, 0, 3, 1, 2, 1, 1, 0, 2});
        x.deliver(0);
        x.read(2);
        row(x, 0, new int[] {0, 0, 2, 2, 1, 0, 0, NONE, 1});
        x.deliver(0);
        row(x, 0, new int[] {1, 0, 2, 2, 1, 1, 1, 0, 1});
        x.deliver(0);
        row(x, 0, new int[] {0, 0, 2, 2, 2, 1, 1, NONE, 2});
        x.settle(100);
        x.change(1, 1);
        row(x, 0, new int[] {0, 0, 0, 3, 3, 0, 0, 1, 1});
        x.deliver(0);
        row(x, 0, new int[] {1, 0, 0, 3, 3, 1, 1, 1, 1});
        x.deliver(0);
        row(x, 0, new int[] {0, 0, 0, 3, 4, 1, 1, NONE, 2});
        x.deliver(0);
        row(x, 0, new int[] {1, 0, 0, 3, 4, 1, 1, 1, 2});
        x.deliver(0);
        row(x, 0, new int[] {0, 0, 0, 3, 5, 0, 0, 1, 3});
        x.deliver(0);
        row(x, 0, new int[] {1, 0, 0, 3, 5, 1, 1, 1, 3});
        due.is("air(0, 9)", x.air(0, 9), NONE);
        due.is("air(0, -1)", x.air(0, -1), NONE);
        for (int what = 0; what <= 8; what++) {
            due.is("air(1, " + what + ")", x.air(1, what), NONE);
            due.is("air(-1, " + what + ")", x.air(-1, what), NONE);
        }
        for (int far : FAR) {
            due.is("air(" + far + ", 0)", x.air(far, 0), NONE);
            due.is("air(0, " + far + ")", x.air(0, far), NONE);
        }
    }

    private static void row(VotedFile x, int k, int[] want) {
        for (int what = 0; what < want.length; what++) {
            due.is("air(" + k + ", " + what + ")", x.air(k, what), want[what]);
        }
    }

    private static void promise19Act() {
        due.part("promise 19, act");
        VotedFile x = new VotedFile(1);
        x.write(2, 5L);
        act(x, 1, new int[] {1, 2, 1, NONE, NONE, NONE, NONE});
        x.settle(2);
        act(x, 1, new int[] {1, 2, 1, NONE, 1, 1, NONE});
        x.settle(2);
        act(x, 1, new int[] {1, 2, 1, 5, 1, 1, NONE});
        x.read(3);
        act(x, 2, new int[] {0, 3, 6, NONE, NONE, NONE, NONE});
        x.settle(2);
        act(x, 2, new int[] {0, 3, 6, NONE, NONE, NONE, NONE});
        x.settle(2);
        act(x, 2, new int[] {0, 3, 6, 10, 1, 1, NONE});
        x.change(1, 1);
        act(x, 3, new int[] {2, 0, 11, NONE, NONE, NONE, 1});
        x.settle(2);
        act(x, 3, new int[] {2, 0, 11, NONE, 1, 1, 1});
        x.settle(2);
        act(x, 3, new int[] {2, 0, 11, NONE, 1, 1, 1});
        x.settle(2);
        act(x, 3, new int[] {2, 0, 11, 17, 1, 1, 1});
        x.read(0);
        x.settle(3);
        due.is("client(0, 1)", x.client(0, 1), 2);
        x.halt(0);
        act(x, 4, new int[] {0, 0, 18, NONE, NONE, NONE, NONE});
        for (int what = 0; what <= 6; what++) {
            due.is("act(0, " + what + ")", x.act(0, what), NONE);
            due.is("act(5, " + what + ")", x.act(5, what), NONE);
            due.is("act(-1, " + what + ")", x.act(-1, what), NONE);
        }
        due.is("act(1, 7)", x.act(1, 7), NONE);
        due.is("act(1, -1)", x.act(1, -1), NONE);
        for (int far : FAR) {
            due.is("act(" + far + ", 0)", x.act(far, 0), NONE);
            due.is("act(1, " + far + ")", x.act(1, far), NONE);
        }
        due.is("act(200, 0)", x.act(200, 0), NONE);
        due.is("act(201, 0)", x.act(201, 0), NONE);
    }

    private static void act(VotedFile x, int number, int[] want) {
        for (int what = 0; what < want.length; what++) {
            due.is("act(" + number + ", " + what + ")", x.act(number, what), want[what]);
        }
    }

    private static void promise20Value() {
        due.part("promise 20, value");
        VotedFile x = new VotedFile(1);
        x.write(2, 1L << 40);
        due.is("value(1) as it begins", x.value(1), 1L << 40);
        x.settle(100);
        due.is("value(1)", x.value(1), 1L << 40);
        x.read(0);
        x.settle(3);
        due.is("value(2) ahead of its being done", x.value(2), 0L);
        x.settle(1);
        due.is("value(2)", x.value(2), 1L << 40);
        x.change(1, 1);
        x.settle(100);
        due.is("value(3) of a change", x.value(3), 0L);
        x.read(1);
        x.settle(3);
        x.halt(1);
        due.is("value(4) of a read that was ended", x.value(4), 0L);
        x.write(1, 12L);
        x.halt(1);
        due.is("value(5) of a write that was ended", x.value(5), 12L);
        due.is("value(0)", x.value(0), 0L);
        due.is("value(6)", x.value(6), 0L);
        due.is("value(-1)", x.value(-1), 0L);
        for (int far : FAR) {
            due.is("value(" + far + ")", x.value(far), 0L);
        }
    }

    private static void promise21Table() {
        due.part("promise 21, table");
        VotedFile x = new VotedFile(7);
        for (int c = 0; c < 7; c++) {
            x.votes(c, c + 1);
        }
        due.is("change(10, 19)", x.change(10, 19), 1);
        for (int c = 0; c < 7; c++) {
            due.is("table(0, " + c + ")", x.table(0, c), 1);
            due.is("table(1, " + c + ")", x.table(1, c), c + 1);
        }
        due.is("table(0, 7)", x.table(0, 7), 4);
        due.is("table(0, 8)", x.table(0, 8), 4);
        due.is("table(1, 7)", x.table(1, 7), 10);
        due.is("table(1, 8)", x.table(1, 8), 19);
        for (int what = -1; what <= 9; what++) {
            due.is("table(2, " + what + ")", x.table(2, what), NONE);
            due.is("table(-1, " + what + ")", x.table(-1, what), NONE);
            due.is("table(16, " + what + ")", x.table(16, what), NONE);
        }
        due.is("table(0, 9)", x.table(0, 9), NONE);
        due.is("table(0, -1)", x.table(0, -1), NONE);
        for (int far : FAR) {
            due.is("table(" + far + ", 7)", x.table(far, 7), NONE);
            due.is("table(0, " + far + ")", x.table(0, far), NONE);
        }
        VotedFile y = new VotedFile(2);
        due.is("table(0, 2) of two copies", y.table(0, 2), NONE);
        due.is("table(0, 6) of two copies", y.table(0, 6), NONE);
        due.is("table(0, 7) of two copies", y.table(0, 7), 2);
    }

    private static void promise22About() {
        due.part("promise 22, about");
        VotedFile x = new VotedFile(7);
        x.change(4, 4);
        x.write(1, 1L);
        x.halt(1);
        x.deliver(0);
        int[] want = {7, 2, 2, 14, 4, 0};
        for (int what = 0; what <= 5; what++) {
            due.is("about(" + what + ")", x.about(what), want[what]);
        }
        due.is("about(6)", x.about(6), NONE);
        due.is("about(-1)", x.about(-1), NONE);
        for (int far : FAR) {
            due.is("about(" + far + ")", x.about(far), NONE);
        }
        for (int i = 0; i < 41; i++) {
            x.read(2);
            x.halt(2);
        }
        due.is("about(3)", x.about(3), 300);
        due.is("about(5)", x.about(5), 1);
        due.is("about(2)", x.about(2), 43);
        due.is("about(4)", x.about(4), 86);
        x.read(2);
        due.is("about(5)", x.about(5), 8);
        due.is("lose(0)", x.lose(0), true);
        due.is("about(5)", x.about(5), 8);
        due.is("about(3)", x.about(3), 299);
    }
}
