/** Promises 15 to 22: each sentence of the document that names a boundary has a test of its own here. */
public final class Boundaries15To22Test {
    private static final int NONE = VotedFile.NONE;
    private static final int[] FAR = Steps.FAR;
    private static final Due due = new Due("Boundaries15To22Test");

    public static void main(String[] args) {
        promise15NoneSuchCopy();
        promise15NoneSuchWhat();
        promise15EachCopyItsOwn();
        promise16NoneSuch();
        promise16ZeroAndEdges();
        promise17NoneSuchClient();
        promise17NoneSuchWhat();
        promise17Without();
        promise17AnsweredAsBits();
        promise18NoneSuchPlace();
        promise18NoneSuchWhat();
        promise18EmptyAndFull();
        promise18EachItsOwn();
        promise18TagElseZero();
        promise18TableElseNone();
        promise18RoundsFromOneOn();
        promise19NoneSuchAct();
        promise19NoneSuchWhat();
        promise19DoneElseNone();
        promise19TagOfARead();
        promise19TagOfAWrite();
        promise19TagOfAChange();
        promise19TableOfAChangeAlone();
        promise19TheClockWhenItBegan();
        promise20OfAWrite();
        promise20OfAReadThatIsDone();
        promise20ElseZero();
        promise21NoneSuchTable();
        promise21NoneSuchCopy();
        promise21NoneSuchWhat();
        promise21SixteenTables();
        promise22AnotherWhat();
        promise22LostBecauseThereWere300();
        promise22EachAtItsMost();
        due.end();
    }

    // ---- promise 15

    /** Something to be seen in every row: a write that is done, a change in phase 5, sides, a silent copy. */
    private static VotedFile busy() {
        VotedFile x = new VotedFile(3);
        x.write(1, 77L);
        x.settle(12);
        x.change(2, 2);
        x.settle(12);
        x.read(2);
        x.silent(2, true);
        x.side(2, 3);
        x.side(12, 3);
        due.is("client(0, 1)", x.client(0, 1), 5);
        return x;
    }

    private static void promise15NoneSuchCopy() {
        due.part("promise 15, 'NONE if there is none such' COPY");
        for (int n = 1; n <= 7; n++) {
            VotedFile x = new VotedFile(n);
            for (int what = 0; what <= 5; what++) {
                due.is("copy(n - 1, " + what + ") of " + n, x.copy(n - 1, what), 0);
                for (int copy : new int[] {-2, -1, n, n + 1, 8, 10}) {
                    due.is("copy(" + copy + ", " + what + ") of " + n, x.copy(copy, what), NONE);
                }
            }
            for (int far : FAR) {
                due.is("copy(" + far + ", 0) of " + n, x.copy(far, 0), NONE);
            }
        }
    }

    private static void promise15NoneSuchWhat() {
        due.part("promise 15, 'NONE if there is none such' what");
        VotedFile x = busy();
        for (int copy = -1; copy <= 3; copy++) {
            for (int what : new int[] {-2, -1, 6, 7}) {
                due.is("copy(" + copy + ", " + what + ")", x.copy(copy, what), NONE);
            }
            for (int far : FAR) {
                due.is("copy(" + copy + ", " + far + ")", x.copy(copy, far), NONE);
            }
        }
    }

    private static void promise15EachCopyItsOwn() {
        due.part("promise 15, 'what 0, 1: its TAG, 2: BASE, 3: LAST, 4: 1 if it is SILENT, 5: its side'");
        VotedFile x = new VotedFile(3);
        x.read(0);
        x.settle(100);
        x.write(1, 4L);
        x.silent(2, true);
        x.side(2, 3);
        x.settle(8);
        x.change(2, 2);
        x.settle(8);
        Steps.pass(x, 0, 0, 0, 5);
        int[][] want = {{1, 2, 1, 1, 0, 0}, {1, 2, 0, 1, 0, 0}, {0, 0, 0, 0, 1, 3}};
        for (int c = 0; c < 3; c++) {
            for (int what = 0; what <= 5; what++) {
                due.is("copy(" + c + ", " + what + ")", x.copy(c, what), want[c][what]);
            }
        }
    }

    // ---- promise 16

    private static void promise16NoneSuch() {
        due.part("promise 16, '0 if there is none such'");
        for (int n = 1; n <= 7; n++) {
            VotedFile x = new VotedFile(n);
            x.write(0, 55L);
            x.settle(100);
            due.is("kept(0) of " + n, x.kept(0), 55L);
            due.is("kept(n - 1) of " + n, x.kept(n - 1), 55L);
            for (int copy : new int[] {-2, -1, n, n + 1, 8, 10}) {
                due.is("kept(" + copy + ") of " + n, x.kept(copy), 0L);
            }
            for (int far : FAR) {
                due.is("kept(" + far + ") of " + n, x.kept(far), 0L);
            }
        }
    }

    private static void promise16ZeroAndEdges() {
        due.part("promise 16, 'The VALUE that a COPY keeps'");
        VotedFile x = new VotedFile(2);
        due.is("kept(0) at first", x.kept(0), 0L);
        long[] values = {Long.MAX_VALUE, Long.MIN_VALUE, 0L};
        for (long value : values) {
            long before = x.kept(1);
            x.write(0, value);
            x.settle(5);
            due.is("kept(0)", x.kept(0), value);
            due.is("kept(1) is not told yet", x.kept(1), before);
            x.settle(3);
            due.is("kept(1)", x.kept(1), value);
        }
    }

    // ---- promise 17

    private static void promise17NoneSuchClient() {
        due.part("promise 17, 'NONE if there is none such' CLIENT");
        VotedFile x = busy();
        for (int what = 0; what <= 5; what++) {
            for (int client : new int[] {-2, -1, 4, 5, 10, 13}) {
                due.is("client(" + client + ", " + what + ")", x.client(client, what), NONE);
            }
            for (int far : FAR) {
                due.is("client(" + far + ", " + what + ")", x.client(far, what), NONE);
            }
        }
        for (int client = 0; client < 4; client++) {
            due.is("client(" + client + ", 2)", x.client(client, 2), client == 0 ? 1 : 0);
        }
    }

    private static void promise17NoneSuchWhat() {
        due.part("promise 17, 'NONE if there is none such' what");
        VotedFile x = busy();
        for (int client = -1; client <= 4; client++) {
            for (int what : new int[] {-2, -1, 6, 7}) {
                due.is("client(" + client + ", " + what + ")", x.client(client, what), NONE);
            }
            for (int far : FAR) {
                due.is("client(" + client + ", " + far + ")", x.client(client, far), NONE);
            }
        }
    }

    private static void promise17Without() {
        due.part("promise 17, 'its ACT (NONE)', 'its PHASE (0 without)', 'as bits (0 without)'");
        for (int c = 0; c < 4; c++) {
            VotedFile x = new VotedFile(3);
            x.write(c, 5L);
            due.is("client(" + c + ", 0)", x.client(c, 0), 1);
            due.is("client(" + c + ", 1)", x.client(c, 1), 1);
            x.settle(6);
            due.is("client(" + c + ", 1)", x.client(c, 1), 2);
            x.settle(4);
            due.is("client(" + c + ", 5)", x.client(c, 5), 1);
            due.is("client(" + c + ", 0)", x.client(c, 0), 1);
            x.settle(1);
            without(x, c, "done");
            x.settle(100);
            without(x, c, "done, with the third answer");
            x.read(c);
            x.settle(4);
            due.is("client(" + c + ", 5)", x.client(c, 5), 1);
            x.halt(c);
            without(x, c, "ended");
            x.settle(100);
            without(x, c, "ended, with all its answers");
        }
    }

    private static void without(VotedFile x, int client, String name) {
        due.is("client(" + client + ", 0) " + name, x.client(client, 0), NONE);
        due.is("client(" + client + ", 1) " + name, x.client(client, 1), 0);
        due.is("client(" + client + ", 5) " + name, x.client(client, 5), 0);
    }

    private static void promise17AnsweredAsBits() {
        due.part("promise 17, 'COPIES that answered in this PHASE, as bits'");
        VotedFile x = new VotedFile(7);
        x.votes(0, 9);
        x.change(1, 15);
        int[] order = {6, 0, 5};
        int bits = 0;
        for (int copy : order) {
            Steps.exchange(x, copy, 0, 3);
            bits |= 1 << copy;
            due.is("client(0, 5) with copy " + copy, x.client(0, 5), bits);
        }
        Steps.exchange(x, 1, 0, 3);
        due.is("client(0, 5) as phase 4 begins", x.client(0, 5), 0);
        due.is("client(0, 1)", x.client(0, 1), 4);
        for (int copy = 6; copy >= 1; copy--) {
            Steps.exchange(x, copy, 0, 4);
        }
        due.is("client(0, 5): all but copy 0", x.client(0, 5), 126);
    }

    // ---- promise 18

    private static void promise18NoneSuchPlace() {
        due.part("promise 18, 'NONE if there is none such' in THE AIR");
        VotedFile x = new VotedFile(3);
        x.write(1, 5L);
        for (int what = 0; what <= 8; what++) {
            for (int k : new int[] {-2, -1, 3, 4, 299, 300}) {
                due.is("air(" + k + ", " + what + ")", x.air(k, what), NONE);
            }
            for (int far : FAR) {
                due.is("air(" + far + ", " + what + ")", x.air(far, what), NONE);
            }
        }
        due.is("air(2, 1)", x.air(2, 1), 2);
        x.lose(2);
        due.is("air(2, 1) that is lost", x.air(2, 1), NONE);
    }

    private static void promise18NoneSuchWhat() {
        due.part("promise 18, 'NONE if there is none such' what");
        VotedFile x = busy();
        int lying = x.about(3);
        due.is("there are some", lying > 3, true);
        for (int k = -1; k <= lying; k++) {
            for (int what : new int[] {-2, -1, 9, 10}) {
                due.is("air(" + k + ", " + what + ")", x.air(k, what), NONE);
            }
            for (int far : FAR) {
                due.is("air(" + k + ", " + far + ")", x.air(k, far), NONE);
            }
        }
    }

    private static void promise18EmptyAndFull() {
        due.part("promise 18, 'numbered from 0 on as they lie, 300 at most'");
        VotedFile empty = new VotedFile(7);
        for (int what = 0; what <= 8; what++) {
            due.is("air(0, " + what + ") of nothing", empty.air(0, what), NONE);
        }
        VotedFile full = new VotedFile(7);
        Steps.fillAir(full, 300);
        for (int k = 0; k < 294; k++) {
            due.is("air(" + k + ", 1) of 300", full.air(k, 1), k % 7);
        }
        for (int what = 0; what <= 8; what++) {
            due.is("air(299, " + what + ") of 300", full.air(299, what), full.air(0, what));
            due.is("air(300, " + what + ") of 300", full.air(300, what), NONE);
        }
    }

    private static void promise18EachItsOwn() {
        due.part("promise 18, '0 a REQUEST, 1 an ANSWER, 1: the COPY, 2: the CLIENT, 3: the ACT, 4: the PHASE'");
        VotedFile x = new VotedFile(2);
        Steps.makeActs(x, 9);
        Steps.loseAll(x);
        x.write(2, 5L);
        x.settle(4);
        x.change(1, 2);
        x.deliver(1);
        int[][] want = {{0, 0, 2, 10, 2}, {0, 0, 0, 11, 3}, {0, 1, 0, 11, 3}, {1, 1, 2, 10, 2}};
        for (int k = 0; k < want.length; k++) {
            for (int what = 0; what <= 4; what++) {
                due.is("air(" + k + ", " + what + ")", x.air(k, what), want[k][what]);
            }
        }
    }

    private static void promise18TagElseZero() {
        due.part("promise 18, 'the TAG (of STORE and ANSWERS; else 0)'");
        VotedFile x = new VotedFile(1);
        x.read(3);
        x.settle(4);
        x.write(1, 5L);
        x.settle(4);
        x.change(1, 1);
        int[] often = {0, 1, 1, 1, 0, 1};
        tags(x, often, 2);
        x.read(1);
        tags(x, new int[] {0, 1, 0, 1, 1, 1}, 2);
        x.write(2, 6L);
        x.settle(2);
        due.is("air(0, 8): phase 1 begins anew", x.air(0, 8), 2);
        due.is("air(0, 5)", x.air(0, 5), 0);
        x.settle(2);
        due.is("air(0, 5), what is written", x.air(0, 5), 2);
        due.is("air(0, 6)", x.air(0, 6), 5);
    }

    /** The tags of what lies in the air ahead of each delivery: 1 with the writer's number, or 0, 0. */
    private static void tags(VotedFile x, int[] often, int writer) {
        for (int step = 0; step < often.length; step++) {
            due.is("air(0, 5) in step " + step, x.air(0, 5), often[step]);
            due.is("air(0, 6) in step " + step, x.air(0, 6), often[step] == 0 ? 0 : writer);
            x.deliver(0);
        }
    }

    private static void promise18TableElseNone() {
        due.part("promise 18, 'the TABLE of NEXT, ACTIVE (else NONE; of an ANSWER its LAST)'");
        VotedFile x = new VotedFile(1);
        x.read(1);
        tables(x, new int[] {NONE, 0, NONE, 0});
        x.change(1, 1);
        tables(x, new int[] {1, 1, NONE, 1, 1, 1});
        x.change(1, 1);
        tables(x, new int[] {2, 2, NONE, 2, 2, 2});
        x.write(1, 4L);
        tables(x, new int[] {NONE, 2, NONE, 2, NONE, 2});
        due.is("about(3)", x.about(3), 0);
    }

    private static void tables(VotedFile x, int[] want) {
        for (int step = 0; step < want.length; step++) {
            due.is("air(0, 7) in step " + step, x.air(0, 7), want[step]);
            x.deliver(0);
        }
    }

    private static void promise18RoundsFromOneOn() {
        due.part("promise 18, 'in the ACT's next ROUND (1, 2, ..)'");
        VotedFile x = new VotedFile(1);
        x.change(1, 1);
        rounds(x, new int[] {1, 1, 2, 2, 3, 3});
        x.read(0);
        rounds(x, new int[] {1, 1, 2, 2});
        x.write(1, 3L);
        rounds(x, new int[] {1, 1, 2, 2, 3, 3});
        x.write(1, 3L);
        rounds(x, new int[] {1, 1, 2, 2});
        due.is("about(3)", x.about(3), 0);
    }

    private static void rounds(VotedFile x, int[] want) {
        for (int step = 0; step < want.length; step++) {
            due.is("air(0, 8) in step " + step, x.air(0, 8), want[step]);
            due.is("air(0, 0) in step " + step, x.air(0, 0), step % 2);
            x.deliver(0);
        }
    }

    // ---- promise 19

    private static void promise19NoneSuchAct() {
        due.part("promise 19, 'NONE if there is none such' ACT");
        VotedFile x = busy();
        due.is("about(2)", x.about(2), 3);
        for (int what = 0; what <= 6; what++) {
            for (int act : new int[] {-2, -1, 0, 4, 5, 199, 200, 201}) {
                due.is("act(" + act + ", " + what + ")", x.act(act, what), NONE);
            }
            for (int far : FAR) {
                due.is("act(" + far + ", " + what + ")", x.act(far, what), NONE);
            }
        }
        VotedFile full = new VotedFile(1);
        Steps.makeActs(full, 200);
        due.is("act(1, 0)", full.act(1, 0), 0);
        due.is("act(200, 1)", full.act(200, 1), 3);
        due.is("act(200, 2)", full.act(200, 2), 399);
        for (int what = 0; what <= 6; what++) {
            due.is("act(201, " + what + ") with 200 acts", full.act(201, what), NONE);
            due.is("act(0, " + what + ") with 200 acts", full.act(0, what), NONE);
        }
    }

    private static void promise19NoneSuchWhat() {
        due.part("promise 19, 'NONE if there is none such' what");
        VotedFile x = busy();
        for (int act = 0; act <= 4; act++) {
            for (int what : new int[] {-2, -1, 7, 8}) {
                due.is("act(" + act + ", " + what + ")", x.act(act, what), NONE);
            }
            for (int far : FAR) {
                due.is("act(" + act + ", " + far + ")", x.act(act, far), NONE);
            }
        }
    }

    private static void promise19DoneElseNone() {
        due.part("promise 19, 'THE CLOCK .. when it was done (NONE)'");
        VotedFile x = new VotedFile(1);
        x.write(0, 5L);
        for (int step = 0; step < 4; step++) {
            due.is("act(1, 3) ahead of step " + step, x.act(1, 3), NONE);
            x.deliver(0);
        }
        due.is("act(1, 3)", x.act(1, 3), 5);
        x.change(1, 1);
        for (int step = 0; step < 6; step++) {
            due.is("act(2, 3) ahead of step " + step, x.act(2, 3), NONE);
            x.deliver(0);
        }
        due.is("act(2, 3)", x.act(2, 3), 12);
        x.read(0);
        x.settle(3);
        x.halt(0);
        x.settle(100);
        due.is("act(3, 3), ended", x.act(3, 3), NONE);
        due.is("act(1, 3) stays", x.act(1, 3), 5);
    }

    private static void tag(VotedFile x, int act, String name, int often, int number) {
        due.is("act(" + act + ", 4) " + name, x.act(act, 4), often);
        due.is("act(" + act + ", 5) " + name, x.act(act, 5), number);
    }

    private static void promise19TagOfARead() {
        due.part("promise 19, 'its TAG (of a READ that is done BEST's; ..)'");
        VotedFile x = new VotedFile(1);
        x.read(1);
        for (int step = 0; step < 4; step++) {
            tag(x, 1, "ahead of step " + step, NONE, NONE);
            x.deliver(0);
        }
        tag(x, 1, "done, of a file that was never written", 0, 0);
        x.write(0, 5L);
        x.settle(4);
        x.read(1);
        for (int step = 0; step < 4; step++) {
            tag(x, 3, "ahead of step " + step, NONE, NONE);
            x.deliver(0);
        }
        tag(x, 3, "done", 1, 2);
        x.read(1);
        x.settle(3);
        x.halt(1);
        tag(x, 4, "ended in phase 2", NONE, NONE);
        x.settle(100);
        tag(x, 4, "ended in phase 2, with its answer", NONE, NONE);
    }

    private static void promise19TagOfAWrite() {
        due.part("promise 19, 'of a WRITE from PHASE 2 on'");
        VotedFile x = new VotedFile(1);
        x.write(1, 5L);
        tag(x, 1, "in phase 1", NONE, NONE);
        x.deliver(0);
        tag(x, 1, "in phase 1, with its request delivered", NONE, NONE);
        x.deliver(0);
        for (int step = 2; step < 4; step++) {
            tag(x, 1, "in phase 2", 1, 1);
            x.deliver(0);
        }
        tag(x, 1, "done", 1, 1);
        x.write(1, 6L);
        x.settle(1);
        x.halt(1);
        x.settle(100);
        tag(x, 2, "ended in phase 1", NONE, NONE);
        x.write(1, 7L);
        x.settle(2);
        x.halt(1);
        tag(x, 3, "ended in phase 2", 2, 3);
        VotedFile y = new VotedFile(1);
        y.change(1, 1);
        y.settle(6);
        y.write(1, 8L);
        y.settle(2);
        due.is("air(0, 8): phase 1 begins anew", y.air(0, 8), 2);
        tag(y, 2, "in phase 1 that begins anew", NONE, NONE);
    }

    private static void promise19TagOfAChange() {
        due.part("promise 19, 'of a CHANGE from PHASE 4 on BEST's; else NONE'");
        VotedFile x = new VotedFile(1);
        x.change(1, 1);
        changeTags(x, 1, 0, 0);
        x.write(1, 5L);
        x.settle(100);
        x.change(1, 1);
        changeTags(x, 3, 1, 2);
        x.change(1, 1);
        x.settle(1);
        x.halt(0);
        x.settle(100);
        tag(x, 4, "ended in phase 3", NONE, NONE);
        x.resume();
        x.settle(2);
        x.halt(0);
        tag(x, 5, "ended in phase 4", 1, 2);
    }

    private static void changeTags(VotedFile x, int act, int often, int number) {
        for (int step = 0; step < 6; step++) {
            boolean fromFour = step >= 2;
            due.is("client(0, 1)", x.client(0, 1), 3 + step / 2);
            tag(x, act, "ahead of step " + step, fromFour ? often : NONE, fromFour ? number : NONE);
            x.deliver(0);
        }
        tag(x, act, "done", often, number);
    }

    private static void promise19TableOfAChangeAlone() {
        due.part("promise 19, 'the TABLE (NONE but of a CHANGE)'");
        VotedFile x = new VotedFile(1);
        x.change(1, 1);
        x.settle(6);
        x.read(0);
        x.settle(4);
        x.write(0, 5L);
        x.settle(4);
        x.change(1, 1);
        x.halt(0);
        x.resume();
        int[] kinds = {2, 0, 1, 2, 2};
        int[] tables = {1, NONE, NONE, 2, 2};
        for (int act = 1; act <= 5; act++) {
            due.is("act(" + act + ", 0)", x.act(act, 0), kinds[act - 1]);
            due.is("act(" + act + ", 6)", x.act(act, 6), tables[act - 1]);
            due.is("act(" + act + ", 1)", x.act(act, 1), 0);
        }
    }

    private static void promise19TheClockWhenItBegan() {
        due.part("promise 19, 'THE CLOCK when it began', '1 more with each ACT that begins .. (ahead of what these do)'");
        VotedFile x = new VotedFile(1);
        x.read(0);
        x.write(1, 5L);
        x.halt(0);
        due.is("a read that is refused", x.read(1), NONE);
        x.read(2);
        x.deliver(0);
        x.change(1, 1);
        int[] began = {1, 2, 4, 6};
        for (int act = 1; act <= 4; act++) {
            due.is("act(" + act + ", 2)", x.act(act, 2), began[act - 1]);
        }
        due.is("about(4)", x.about(4), 6);
    }

    // ---- promise 20

    private static void promise20OfAWrite() {
        due.part("promise 20, 'of a WRITE what is written'");
        long[] values = {Long.MIN_VALUE, -1L, 0L, Long.MAX_VALUE};
        for (long value : values) {
            VotedFile x = new VotedFile(1);
            x.write(1, value);
            for (int step = 0; step <= 4; step++) {
                due.is("value(1) in step " + step, x.value(1), value);
                x.deliver(0);
            }
            x.write(1, value);
            x.halt(1);
            due.is("value(2), ended", x.value(2), value);
            due.is("value(1) stays", x.value(1), value);
        }
    }

    private static void promise20OfAReadThatIsDone() {
        due.part("promise 20, 'of a READ that is done what it read'");
        VotedFile x = new VotedFile(1);
        x.write(0, Long.MIN_VALUE);
        x.settle(4);
        x.read(1);
        for (int step = 0; step < 4; step++) {
            due.is("value(2) ahead of step " + step, x.value(2), 0L);
            x.deliver(0);
        }
        due.is("value(2)", x.value(2), Long.MIN_VALUE);
        x.write(0, 9L);
        x.settle(4);
        due.is("value(2) stays", x.value(2), Long.MIN_VALUE);
        x.read(1);
        x.settle(3);
        x.halt(1);
        x.settle(100);
        due.is("value(4), ended", x.value(4), 0L);
    }

    private static void promise20ElseZero() {
        due.part("promise 20, 'else 0'");
        VotedFile x = new VotedFile(1);
        x.write(0, 9L);
        x.settle(4);
        x.change(1, 1);
        for (int step = 0; step <= 6; step++) {
            due.is("value(2) of a change in step " + step, x.value(2), 0L);
            x.deliver(0);
        }
        for (int act : new int[] {-2, -1, 0, 3, 4, 199, 200, 201}) {
            due.is("value(" + act + ")", x.value(act), 0L);
        }
        for (int far : FAR) {
            due.is("value(" + far + ")", x.value(far), 0L);
        }
        VotedFile full = new VotedFile(1);
        Steps.makeActs(full, 199);
        full.write(1, 9L);
        due.is("value(200)", full.value(200), 9L);
        due.is("value(201)", full.value(201), 0L);
    }

    // ---- promise 21

    private static void promise21NoneSuchTable() {
        due.part("promise 21, 'NONE if there is none such' TABLE");
        VotedFile x = busy();
        for (int what = 0; what <= 8; what++) {
            for (int t : new int[] {-2, -1, 2, 3, 15, 16, 17}) {
                due.is("table(" + t + ", " + what + ")", x.table(t, what), NONE);
            }
            for (int far : FAR) {
                due.is("table(" + far + ", " + what + ")", x.table(far, what), NONE);
            }
        }
        due.is("table(1, 8)", x.table(1, 8), 2);
        due.is("table(0, 8)", x.table(0, 8), 2);
    }

    private static void promise21NoneSuchCopy() {
        due.part("promise 21, 'VOTES of that COPY (NONE if there is none such)'");
        for (int n = 1; n <= 7; n++) {
            VotedFile x = new VotedFile(n);
            x.votes(n - 1, 0);
            x.votes(0, 9);
            int all = n == 1 ? 9 : 9 + n - 2;
            due.is("change of " + n, x.change(all, all), 1);
            for (int c = 0; c < 7; c++) {
                due.is("table(0, " + c + ") of " + n, x.table(0, c), c < n ? 1 : NONE);
                int votes = c == 0 ? 9 : c == n - 1 ? 0 : 1;
                due.is("table(1, " + c + ") of " + n, x.table(1, c), c < n ? votes : NONE);
            }
            due.is("table(1, 7) of " + n, x.table(1, 7), all);
            due.is("table(1, 8) of " + n, x.table(1, 8), all);
        }
    }

    private static void promise21NoneSuchWhat() {
        due.part("promise 21, 'NONE if there is none such' what");
        for (int n : new int[] {1, 7}) {
            VotedFile x = new VotedFile(n);
            for (int t = -1; t <= 1; t++) {
                for (int what : new int[] {-2, -1, 9, 10}) {
                    due.is("table(" + t + ", " + what + ") of " + n, x.table(t, what), NONE);
                }
                for (int far : FAR) {
                    due.is("table(" + t + ", " + far + ") of " + n, x.table(t, far), NONE);
                }
            }
        }
    }

    private static void promise21SixteenTables() {
        due.part("promise 21, 'TABLES are numbered from 0 on, 16 at most'");
        VotedFile x = new VotedFile(1);
        for (int t = 1; t <= 15; t++) {
            int votes = t % 9 + 1;
            x.votes(0, votes);
            due.is("change", x.change(votes, votes), t);
            x.settle(6);
        }
        for (int t = 1; t <= 15; t++) {
            due.is("table(" + t + ", 0)", x.table(t, 0), t % 9 + 1);
            due.is("table(" + t + ", 7)", x.table(t, 7), t % 9 + 1);
        }
        due.is("table(0, 0)", x.table(0, 0), 1);
        due.is("table(16, 0)", x.table(16, 0), NONE);
    }

    // ---- promise 22

    private static void promise22AnotherWhat() {
        due.part("promise 22, 'NONE for another what'");
        VotedFile x = busy();
        for (int what : new int[] {-2, -1, 6, 7}) {
            due.is("about(" + what + ")", x.about(what), NONE);
        }
        for (int far : FAR) {
            due.is("about(" + far + ")", x.about(far), NONE);
        }
        int[] want = {3, 2, 3, x.about(3), 1 + 12 + 1 + 12 + 1, 0};
        for (int what = 0; what <= 5; what++) {
            due.is("about(" + what + ")", x.about(what), want[what]);
        }
    }

    private static void promise22LostBecauseThereWere300() {
        due.part("promise 22, 'lost because there were 300'");
        VotedFile x = new VotedFile(7);
        Steps.fillAir(x, 298);
        due.is("about(5)", x.about(5), 0);
        x.write(0, 5L);
        due.is("about(5): two of seven have room", x.about(5), 5);
        due.is("about(3)", x.about(3), 300);
        due.is("air(298, 1)", x.air(298, 1), 0);
        due.is("air(299, 1)", x.air(299, 1), 1);
        x.read(1);
        due.is("about(5): none of seven", x.about(5), 12);
        due.is("about(2): it began all the same", x.about(2), 3);
        due.is("client(1, 0)", x.client(1, 0), 3);
        x.change(4, 4);
        due.is("about(5): client 0 has one under way", x.about(5), 12);
        x.halt(0);
        due.is("change(4, 4)", x.change(4, 4), 4);
        due.is("about(5)", x.about(5), 19);
        due.is("twice(0) loses nothing", x.twice(0), false);
        due.is("about(5)", x.about(5), 19);
        due.is("lose(0) is another loss", x.lose(0), true);
        due.is("about(5)", x.about(5), 19);
        due.is("about(3)", x.about(3), 299);
    }

    private static void promise22EachAtItsMost() {
        due.part("promise 22, '16 at most', '200 at most', '300 at most'");
        VotedFile tables = new VotedFile(1);
        for (int t = 1; t <= 17; t++) {
            tables.change(1, 1);
            tables.settle(6);
            due.is("about(1)", tables.about(1), Math.min(t + 1, 16));
        }
        VotedFile acts = new VotedFile(1);
        Steps.makeActs(acts, 200);
        due.is("about(2)", acts.about(2), 200);
        acts.read(0);
        acts.write(1, 1L);
        due.is("about(2)", acts.about(2), 200);
        due.is("about(4): what is refused does not move the clock", acts.about(4), 400);
        VotedFile air = new VotedFile(7);
        Steps.fillAir(air, 300);
        air.again(3);
        due.is("about(3)", air.about(3), 300);
        due.is("about(0)", air.about(0), 7);
    }
}
