/** A file of eight bytes that is kept in copies with votes; ../shared/DOC.md is its document. */
public final class VotedFile {
    public static final int NONE = -1;

    private static final int COPIES_MOST = 7;
    private static final int CLIENTS = 4;
    private static final int SIDES = 4;
    private static final int VOTES_MOST = 9;
    private static final int TABLES_MOST = 16;
    private static final int ACTS_MOST = 200;
    private static final int AIR_MOST = 300;

    /** The one client that changes the votes. */
    private static final int CHANGER = 0;

    /** What side() adds to a client's number to tell it from a copy's. */
    private static final int CLIENT_NAMES = 10;

    /** One settle() takes some two thousand steps at the most; this bound only shows that it ends. */
    private static final int STEPS_MOST = 1000000;

    private static final int READ = 0;
    private static final int WRITE = 1;
    private static final int CHANGE = 2;

    private static final int NO_PHASE = 0;
    private static final int ASK = 1;
    private static final int STORE = 2;
    private static final int NEXT = 3;
    private static final int STORE_FOR_CHANGE = 4;
    private static final int ACTIVE = 5;

    private final Copy[] copies;
    private final Client[] clients;
    private final Table[] tables;
    private final Act[] acts;
    private final Air air;
    private final int[] votesOfNext;
    private int tableCount;
    private int actCount;
    private int clock;

    public VotedFile(int copies) {
        int n = Math.max(1, Math.min(copies, COPIES_MOST));
        this.copies = new Copy[n];
        this.votesOfNext = new int[n];
        for (int c = 0; c < n; c++) {
            this.copies[c] = new Copy();
            this.votesOfNext[c] = 1;
        }
        this.clients = new Client[CLIENTS];
        for (int c = 0; c < CLIENTS; c++) {
            this.clients[c] = new Client(c);
        }
        this.tables = new Table[TABLES_MOST];
        this.tables[0] = new Table(this.votesOfNext.clone(), n / 2 + 1, n / 2 + 1);
        this.tableCount = 1;
        this.acts = new Act[ACTS_MOST];
        this.air = new Air();
    }

    // ---- what begins, goes on and ends

    public boolean votes(int copy, int votes) {
        if (copy < 0 || copy >= votesOfNext.length || votes < 0 || votes > VOTES_MOST) {
            return false;
        }
        votesOfNext[copy] = votes;
        return true;
    }

    public int change(int r, int w) {
        Client changer = clientAt(CHANGER);
        if (changer == null || !canBegin(changer) || changer.base < changer.last) {
            return NONE;
        }
        if (tableCount >= tables.length || !Table.canBe(votesOfNext, r, w)) {
            return NONE;
        }
        int made = tableCount;
        tables[made] = new Table(votesOfNext.clone(), r, w);
        tableCount++;
        return beginChange(changer, made);
    }

    public int resume() {
        Client changer = clientAt(CHANGER);
        if (changer == null || !canBegin(changer) || changer.base >= changer.last) {
            return NONE;
        }
        return beginChange(changer, changer.last);
    }

    public int read(int client) {
        Client reader = clientAt(client);
        if (reader == null || !canBegin(reader)) {
            return NONE;
        }
        return beginAct(reader, new Act(actCount + 1, READ, client), ASK);
    }

    public int write(int client, long value) {
        Client writer = clientAt(client);
        if (writer == null || !canBegin(writer)) {
            return NONE;
        }
        Act act = new Act(actCount + 1, WRITE, client);
        act.result = value;
        return beginAct(writer, act, ASK);
    }

    public int again(int client) {
        Client asker = clientAt(client);
        if (asker == null || asker.doing == null) {
            return NONE;
        }
        return sendRequests(asker, asker.doing);
    }

    public int halt(int client) {
        Client halted = clientAt(client);
        if (halted == null) {
            return NONE;
        }
        Act ended = halted.doing;
        if (ended == null) {
            return NONE;
        }
        clock++;
        halted.rest();
        return ended.number;
    }

    // ---- what happens on the way

    public boolean deliver(int k) {
        Message message = air.at(k);
        if (message == null || !canPass(message)) {
            return false;
        }
        air.take(k);
        clock++;
        if (message.isAnswer) {
            hear(message);
        } else {
            serve(message);
        }
        return true;
    }

    /**
     * What could not be delivered is not looked at again: no delivery changes a side or who is
     * silent, so the first that can be delivered never lies ahead of the last one that was.
     */
    public int settle(int n) {
        if (n < 0) {
            return NONE;
        }
        int delivered = 0;
        int k = 0;
        for (int step = 0; step < STEPS_MOST && delivered < n && k < air.count; step++) {
            if (deliver(k)) {
                delivered++;
            } else {
                k++;
            }
        }
        return delivered;
    }

    public boolean lose(int k) {
        return air.take(k);
    }

    public boolean twice(int k) {
        Message message = air.at(k);
        if (message == null || air.count >= AIR_MOST) {
            return false;
        }
        Message second = air.next();
        if (second == null) {
            return false;
        }
        second.repeat(message);
        return true;
    }

    public boolean silent(int copy, boolean is) {
        Copy row = copyAt(copy);
        if (row == null) {
            return false;
        }
        row.isSilent = is;
        return true;
    }

    public boolean side(int whose, int side) {
        if (side < 0 || side >= SIDES) {
            return false;
        }
        Copy row = copyAt(whose);
        if (row != null) {
            row.place = side;
            return true;
        }
        if (whose < CLIENT_NAMES) {
            return false;
        }
        Client one = clientAt(whose - CLIENT_NAMES);
        if (one == null) {
            return false;
        }
        one.place = side;
        return true;
    }

    // ---- what can be seen

    public int copy(int copy, int what) {
        Copy row = copyAt(copy);
        if (row == null) {
            return NONE;
        }
        switch (what) {
            case 0: return row.version.often;
            case 1: return row.version.writer;
            case 2: return row.base;
            case 3: return row.last;
            case 4: return row.isSilent ? 1 : 0;
            case 5: return row.place;
            default: return NONE;
        }
    }

    public long kept(int copy) {
        Copy row = copyAt(copy);
        return row == null ? 0L : row.version.content;
    }

    public int client(int client, int what) {
        Client one = clientAt(client);
        if (one == null) {
            return NONE;
        }
        Act doing = one.doing;
        switch (what) {
            case 0: return doing == null ? NONE : doing.number;
            case 1: return one.phase;
            case 2: return one.base;
            case 3: return one.last;
            case 4: return one.place;
            case 5: return one.answered;
            default: return NONE;
        }
    }

    public int air(int k, int what) {
        Message message = air.at(k);
        if (message == null) {
            return NONE;
        }
        switch (what) {
            case 0: return message.isAnswer ? 1 : 0;
            case 1: return message.copyNumber;
            case 2: return message.clientNumber;
            case 3: return message.actNumber;
            case 4: return message.phase;
            case 5: return message.version.often;
            case 6: return message.version.writer;
            case 7: return message.last;
            case 8: return message.round;
            default: return NONE;
        }
    }

    public int act(int act, int what) {
        Act row = actAt(act);
        if (row == null) {
            return NONE;
        }
        switch (what) {
            case 0: return row.kind;
            case 1: return row.clientNumber;
            case 2: return row.began;
            case 3: return row.ended;
            case 4: return row.often;
            case 5: return row.writer;
            case 6: return row.target;
            default: return NONE;
        }
    }

    public long value(int act) {
        Act row = actAt(act);
        return row == null ? 0L : row.result;
    }

    public int table(int t, int what) {
        Table row = tableAt(t);
        if (row == null) {
            return NONE;
        }
        if (what >= 0 && what < row.shares.length) {
            return row.shares[what];
        }
        switch (what) {
            case 7: return row.r;
            case 8: return row.w;
            default: return NONE;
        }
    }

    public int about(int what) {
        switch (what) {
            case 0: return copies.length;
            case 1: return tableCount;
            case 2: return actCount;
            case 3: return air.count;
            case 4: return clock;
            case 5: return air.lost;
            default: return NONE;
        }
    }

    // ---- rows by their numbers, null where there is none such

    private Copy copyAt(int number) {
        return number >= 0 && number < copies.length ? copies[number] : null;
    }

    private Client clientAt(int number) {
        return number >= 0 && number < clients.length ? clients[number] : null;
    }

    private Table tableAt(int number) {
        return number >= 0 && number < tables.length ? tables[number] : null;
    }

    private Act actAt(int number) {
        return number >= 1 && number <= acts.length ? acts[number - 1] : null;
    }

    // ---- acts and their phases

    private boolean canBegin(Client client) {
        return client.doing == null && actCount < acts.length;
    }

    private int beginChange(Client changer, int target) {
        Act act = new Act(actCount + 1, CHANGE, changer.number);
        act.target = target;
        changer.last = target;
        return beginAct(changer, act, NEXT);
    }

    private int beginAct(Client client, Act act, int phase) {
        if (actCount >= acts.length) {
            return NONE;
        }
        acts[actCount] = act;
        actCount++;
        clock++;
        act.began = clock;
        client.doing = act;
        client.round = 0;
        client.version.put(0, 0, 0L);
        beginPhase(client, act, phase);
        return act.number;
    }

    private void beginPhase(Client client, Act act, int phase) {
        client.phase = phase;
        client.round++;
        client.answered = 0;
        if (phase == ACTIVE) {
            client.base = act.target;
        }
        sendRequests(client, act);
    }

    /** How many are sent; what finds no room in the air was sent all the same. */
    private int sendRequests(Client client, Act act) {
        int sent = 0;
        for (int c = 0; c < copies.length; c++) {
            if (!client.hasAnswerOf(c)) {
                sendRequest(client, act, c);
                sent++;
            }
        }
        return sent;
    }

    private void sendRequest(Client client, Act act, int copyNumber) {
        Message request = air.next();
        if (request == null) {
            return;
        }
        int phase = client.phase;
        request.isAnswer = false;
        request.copyNumber = copyNumber;
        request.clientNumber = client.number;
        request.actNumber = act.number;
        request.phase = phase;
        request.round = client.round;
        request.base = NONE;
        request.last = phase == NEXT || phase == ACTIVE ? act.target : NONE;
        if (phase == STORE || phase == STORE_FOR_CHANGE) {
            request.version.set(client.version);
        } else {
            request.version.put(0, 0, 0L);
        }
    }

    private boolean canPass(Message message) {
        Copy copy = copyAt(message.copyNumber);
        Client client = clientAt(message.clientNumber);
        return copy != null && client != null && !copy.isSilent && copy.place == client.place;
    }

    /** A request is delivered to its copy. */
    private void serve(Message request) {
        Copy copy = copyAt(request.copyNumber);
        if (copy == null) {
            return;
        }
        copy.obey(request);
        Message answer = air.next();
        if (answer == null) {
            return;
        }
        answer.repeat(request);
        answer.isAnswer = true;
        answer.base = copy.base;
        answer.last = copy.last;
        answer.version.set(copy.version);
    }

    /** An answer is delivered to its client. */
    private void hear(Message answer) {
        Client client = clientAt(answer.clientNumber);
        if (client == null) {
            return;
        }
        Act act = client.doing;
        if (act == null || !client.counts(answer, act)) {
            return;
        }
        boolean isBaseNew = answer.base > client.base;
        client.learn(answer);
        if (isBaseNew && client.phase == ASK) {
            beginPhase(client, act, ASK);
        } else if (hasQuorum(client, act)) {
            int next = endPhase(client, act);
            if (next == NO_PHASE) {
                act.ended = clock;
                client.rest();
            } else {
                beginPhase(client, act, next);
            }
        }
    }

    private boolean hasQuorum(Client client, Act act) {
        int from = client.base;
        int to = client.last;
        if (client.phase == NEXT) {
            to = act.target - 1;
        } else if (client.phase == STORE_FOR_CHANGE || client.phase == ACTIVE) {
            from = act.target;
            to = act.target;
        }
        for (int t = from; t <= to; t++) {
            Table table = tableAt(t);
            if (table == null) {
                return false;
            }
            int wanted = client.phase == ASK ? table.r : table.w;
            if (Table.sum(table.shares, client.answered) < wanted) {
                return false;
            }
        }
        return true;
    }

    /** The phase that follows, NO_PHASE if the act is done with this one. */
    private int endPhase(Client client, Act act) {
        switch (client.phase) {
            case ASK:
                if (act.kind == WRITE) {
                    client.version.put(client.version.often + 1, act.number, act.result);
                    act.showTag(client.version);
                }
                return STORE;
            case STORE:
                if (act.kind == READ) {
                    act.showTag(client.version);
                    act.result = client.version.content;
                }
                return NO_PHASE;
            case NEXT:
                act.showTag(client.version);
                return STORE_FOR_CHANGE;
            case STORE_FOR_CHANGE:
                return ACTIVE;
            default:
                return NO_PHASE;
        }
    }

    // ---- the rows

    /** A value with its tag: how often the file was written, and by which act. */
    private static final class Version {
        int often;
        int writer;
        long content;

        boolean isAbove(Version other) {
            return often > other.often || often == other.often && writer > other.writer;
        }

        void put(int newOften, int newWriter, long newContent) {
            often = newOften;
            writer = newWriter;
            content = newContent;
        }

        void set(Version other) {
            often = other.often;
            writer = other.writer;
            content = other.content;
        }
    }

    private static final class Copy {
        final Version version = new Version();
        int base;
        int last;
        boolean isSilent;
        int place;

        void obey(Message request) {
            switch (request.phase) {
                case STORE:
                case STORE_FOR_CHANGE:
                    if (request.version.isAbove(version)) {
                        version.set(request.version);
                    }
                    break;
                case NEXT:
                    last = Math.max(last, request.last);
                    break;
                case ACTIVE:
                    base = Math.max(base, request.last);
                    last = Math.max(last, request.last);
                    break;
                default:
                    break;
            }
        }
    }

    private static final class Client {
        final int number;
        /** BEST while it is asked for, then what is stored. */
        final Version version = new Version();
        Act doing;
        int phase;
        int round;
        int answered;
        int base;
        int last;
        int place;

        Client(int number) {
            this.number = number;
        }

        boolean hasAnswerOf(int copyNumber) {
            return (answered >> copyNumber & 1) == 1;
        }

        /** A round belongs to one phase, so the answer's phase need not be looked at. */
        boolean counts(Message answer, Act act) {
            return answer.actNumber == act.number && answer.round == round
                && !hasAnswerOf(answer.copyNumber);
        }

        void learn(Message answer) {
            answered |= 1 << answer.copyNumber;
            base = Math.max(base, answer.base);
            last = Math.max(last, answer.last);
            boolean seeksBest = phase == ASK || phase == NEXT;
            if (seeksBest && answer.version.isAbove(version)) {
                version.set(answer.version);
            }
        }

        void rest() {
            doing = null;
            phase = NO_PHASE;
            answered = 0;
        }
    }

    private static final class Act {
        final int number;
        final int kind;
        final int clientNumber;
        int began;
        int ended = NONE;
        int often = NONE;
        int writer = NONE;
        int target = NONE;
        /** What value() answers: what a write writes, or what a read that is done has read. */
        long result;

        Act(int number, int kind, int clientNumber) {
            this.number = number;
            this.kind = kind;
            this.clientNumber = clientNumber;
        }

        void showTag(Version version) {
            often = version.often;
            writer = version.writer;
        }
    }

    private static final class Table {
        final int[] shares;
        final int r;
        final int w;

        Table(int[] shares, int r, int w) {
            this.shares = shares;
            this.r = r;
            this.w = w;
        }

        /** r and w are held against the sum first, so that what is added to them stays small. */
        static boolean canBe(int[] shares, int r, int w) {
            int all = sum(shares, -1);
            return r >= 1 && w >= 1 && r <= all && w <= all && r + w > all && 2 * w > all;
        }

        /** The votes of those copies together whose bits are set. */
        static int sum(int[] shares, int bits) {
            int together = 0;
            for (int c = 0; c < shares.length; c++) {
                if ((bits >> c & 1) == 1) {
                    together += shares[c];
                }
            }
            return together;
        }
    }

    /** A request or an answer; base, last and version are the copy's in an answer. */
    private static final class Message {
        final Version version = new Version();
        boolean isAnswer;
        int copyNumber;
        int clientNumber;
        int actNumber;
        int phase;
        int round;
        int base;
        /** In a request the table of NEXT and ACTIVE, else NONE. */
        int last;

        void repeat(Message other) {
            isAnswer = other.isAnswer;
            copyNumber = other.copyNumber;
            clientNumber = other.clientNumber;
            actNumber = other.actNumber;
            phase = other.phase;
            round = other.round;
            base = other.base;
            last = other.last;
            version.set(other.version);
        }
    }

    /** What is on its way, in rows that are made once and used again. */
    private static final class Air {
        final Message[] rows = new Message[AIR_MOST];
        /** What was taken out last: kept apart, so that what it sets off is not written over it. */
        Message taken = new Message();
        int count;
        int lost;

        Air() {
            for (int k = 0; k < rows.length; k++) {
                rows[k] = new Message();
            }
        }

        Message at(int k) {
            return k >= 0 && k < count && k < rows.length ? rows[k] : null;
        }

        /** The row behind all, to be filled; null if what would lie there is lost. */
        Message next() {
            if (count >= rows.length) {
                lost++;
                return null;
            }
            Message row = rows[count];
            count++;
            return row;
        }

        boolean take(int k) {
            Message found = at(k);
            if (found == null) {
                return false;
            }
            for (int j = k + 1; j < count && j < rows.length; j++) {
                rows[j - 1] = rows[j];
            }
            count--;
            rows[count] = taken;
            taken = found;
            return true;
        }
    }
}
