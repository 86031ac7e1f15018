import java.util.ArrayList;
import java.util.Arrays;
import java.util.List;
import java.util.Set;
import java.util.TreeMap;
import java.util.TreeSet;

/** The document said over again, as literally as can be and with no care for space or time. */
final class PlainVotedFile {
    static final int NONE = -1;

    record Tag(int often, int act) {
        boolean greater(Tag other) {
            return often != other.often ? often > other.often : act > other.act;
        }
    }

    record Row(boolean answer, int copy, int client, int act, int phase, int round,
               Tag tag, long value, int base, int table) { }

    record Rule(List<Integer> votes, int r, int w) {
        int together(Set<Integer> who) {
            return who.stream().mapToInt(votes::get).sum();
        }
    }

    static final class Holder {
        Tag tag = new Tag(0, 0);
        long value;
        int base;
        int last;
        boolean silent;
        int side;
    }

    static final class User {
        Deed deed;
        int base;
        int last;
        int side;
    }

    static final class Deed {
        int number;
        int kind;
        int client;
        int began;
        Integer done;
        int phase;
        int round;
        Set<Integer> answered = new TreeSet<>();
        Tag best = new Tag(0, 0);
        long bestValue;
        Tag own;
        long written;
        Integer table;
        int phaseReached;
    }

    final int n;
    final Holder[] holders;
    final User[] users = {new User(), new User(), new User(), new User()};
    final List<Rule> rules = new ArrayList<>();
    final Integer[] told;
    final TreeMap<Integer, Deed> deeds = new TreeMap<>();
    final List<Row> way = new ArrayList<>();
    int clock;
    int lost;

    PlainVotedFile(int copies) {
        n = copies < 1 ? 1 : copies > 7 ? 7 : copies;
        holders = new Holder[n];
        told = new Integer[n];
        for (int i = 0; i < n; i++) {
            holders[i] = new Holder();
            told[i] = 1;
        }
        rules.add(new Rule(List.of(told), n / 2 + 1, n / 2 + 1));
    }

    boolean isCopy(int c) {
        return 0 <= c && c < n;
    }

    boolean isClient(int c) {
        return 0 <= c && c <= 3;
    }

    boolean lies(int k) {
        return 0 <= k && k < way.size();
    }

    boolean votes(int copy, int votes) {
        if (!isCopy(copy) || votes < 0 || votes > 9) return false;
        told[copy] = votes;
        return true;
    }

    int change(int r, int w) {
        long s = Arrays.stream(told).mapToInt(v -> v).sum();
        boolean canBe = r <= s && w <= s && (long) r + w > s && 2L * w > s;
        if (r < 1 || w < 1 || !canBe || rules.size() == 16 || deeds.size() == 200) return NONE;
        if (users[0].deed != null || users[0].base < users[0].last) return NONE;
        rules.add(new Rule(List.of(told), r, w));
        return begin(0, 2, 0L, rules.size() - 1);
    }

    int resume() {
        if (users[0].deed != null || users[0].base == users[0].last || deeds.size() == 200) return NONE;
        return begin(0, 2, 0L, users[0].last);
    }

    int read(int client) {
        if (!isClient(client) || users[client].deed != null || deeds.size() == 200) return NONE;
        return begin(client, 0, 0L, null);
    }

    int write(int client, long value) {
        if (!isClient(client) || users[client].deed != null || deeds.size() == 200) return NONE;
        return begin(client, 1, value, null);
    }

    private int begin(int client, int kind, long value, Integer table) {
        clock += 1;
        Deed d = new Deed();
        d.number = deeds.size() + 1;
        d.kind = kind;
        d.client = client;
        d.began = clock;
        d.written = value;
        d.table = table;
        deeds.put(d.number, d);
        users[client].deed = d;
        if (kind == 2) users[client].last = table;
        phase(d, kind == 2 ? 3 : 1);
        return d.number;
    }

    private void phase(Deed d, int phase) {
        d.phase = phase;
        d.phaseReached = phase;
        d.round += 1;
        d.answered.clear();
        if (phase == 5) users[d.client].base = d.table;
        for (int c = 0; c < n; c++) request(d, c);
    }

    private void request(Deed d, int c) {
        boolean store = d.phase == 2 || d.phase == 4;
        Tag tag = !store ? new Tag(0, 0) : d.kind == 1 ? d.own : d.best;
        long value = !store ? 0L : d.kind == 1 ? d.written : d.bestValue;
        int table = d.phase == 3 || d.phase == 5 ? d.table : NONE;
        send(new Row(false, c, d.client, d.number, d.phase, d.round, tag, value, NONE, table));
    }

    private void send(Row row) {
        if (way.size() == 300) {
            lost += 1;
        } else {
            way.add(row);
        }
    }

    int again(int client) {
        if (!isClient(client) || users[client].deed == null) return NONE;
        Deed d = users[client].deed;
        int many = 0;
        for (int c = 0; c < n; c++) {
            if (!d.answered.contains(c)) {
                request(d, c);
                many += 1;
            }
        }
        return many;
    }

    private boolean can(Row row) {
        return !holders[row.copy].silent && holders[row.copy].side == users[row.client].side;
    }

    boolean deliver(int k) {
        if (!lies(k) || !can(way.get(k))) return false;
        Row row = way.remove(k);
        clock += 1;
        if (row.answer) {
            toClient(row);
        } else {
            toCopy(row);
        }
        return true;
    }

    private void toCopy(Row row) {
        Holder h = holders[row.copy];
        if ((row.phase == 2 || row.phase == 4) && row.tag.greater(h.tag)) {
            h.tag = row.tag;
            h.value = row.value;
        }
        if ((row.phase == 3 || row.phase == 5) && h.last < row.table) h.last = row.table;
        if (row.phase == 5 && h.base < row.table) h.base = row.table;
        send(new Row(true, row.copy, row.client, row.act, row.phase, row.round, h.tag, h.value, h.base, h.last));
    }

    private void toClient(Row row) {
        User u = users[row.client];
        Deed d = u.deed;
        if (d == null || d.number != row.act || d.phase != row.phase || d.round != row.round) return;
        if (!d.answered.add(row.copy)) return;
        boolean anew = d.phase == 1 && row.base > u.base;
        u.base = Math.max(u.base, row.base);
        u.last = Math.max(u.last, row.table);
        if ((d.phase == 1 || d.phase == 3) && row.tag.greater(d.best)) {
            d.best = row.tag;
            d.bestValue = row.value;
        }
        if (anew) {
            phase(d, 1);
        } else if (over(u, d)) {
            next(u, d);
        }
    }

    private boolean over(User u, Deed d) {
        int from = d.phase <= 3 ? u.base : d.table;
        int to = d.phase <= 2 ? u.last : d.phase == 3 ? d.table - 1 : d.table;
        for (Rule rule : rules.subList(from, to + 1)) {
            if (rule.together(d.answered) < (d.phase == 1 ? rule.r : rule.w)) return false;
        }
        return true;
    }

    private void next(User u, Deed d) {
        if (d.phase == 2 || d.phase == 5) {
            d.done = clock;
            u.deed = null;
            return;
        }
        if (d.kind == 1) d.own = new Tag(d.best.often + 1, d.number);
        phase(d, d.phase + 1);
    }

    int settle(int most) {
        if (most < 0) return NONE;
        int many = 0;
        boolean found = true;
        while (many < most && found) {
            found = false;
            for (int k = 0; k < way.size() && !found; k++) found = deliver(k);
            if (found) many += 1;
        }
        return many;
    }

    boolean lose(int k) {
        if (!lies(k)) return false;
        way.remove(k);
        return true;
    }

    boolean twice(int k) {
        if (!lies(k) || way.size() == 300) return false;
        way.add(way.get(k));
        return true;
    }

    boolean silent(int copy, boolean is) {
        if (!isCopy(copy)) return false;
        holders[copy].silent = is;
        return true;
    }

    boolean side(int whose, int side) {
        if (side < 0 || side > 3) return false;
        if (isCopy(whose)) {
            holders[whose].side = side;
        } else if (whose >= 10 && whose <= 13) {
            users[whose - 10].side = side;
        } else {
            return false;
        }
        return true;
    }

    int halt(int client) {
        if (!isClient(client) || users[client].deed == null) return NONE;
        clock += 1;
        int number = users[client].deed.number;
        users[client].deed = null;
        return number;
    }

    private static int pick(int what, int... all) {
        return what < 0 || what >= all.length ? NONE : all[what];
    }

    int copy(int copy, int what) {
        if (!isCopy(copy)) return NONE;
        Holder h = holders[copy];
        return pick(what, h.tag.often, h.tag.act, h.base, h.last, h.silent ? 1 : 0, h.side);
    }

    long kept(int copy) {
        return isCopy(copy) ? holders[copy].value : 0L;
    }

    int client(int client, int what) {
        if (!isClient(client)) return NONE;
        User u = users[client];
        Deed d = u.deed;
        int bits = d == null ? 0 : d.answered.stream().mapToInt(c -> 1 << c).sum();
        return pick(what, d == null ? NONE : d.number, d == null ? 0 : d.phase, u.base, u.last, u.side, bits);
    }

    int air(int k, int what) {
        if (!lies(k)) return NONE;
        Row r = way.get(k);
        return pick(what, r.answer ? 1 : 0, r.copy, r.client, r.act, r.phase, r.tag.often, r.tag.act, r.table, r.round);
    }

    int act(int act, int what) {
        Deed d = deeds.get(act);
        if (d == null) return NONE;
        Tag tag = null;
        if (d.kind == 0 && d.done != null || d.kind == 2 && d.phaseReached >= 4) tag = d.best;
        if (d.kind == 1 && d.phaseReached == 2) tag = d.own;
        return pick(what, d.kind, d.client, d.began, d.done == null ? NONE : d.done,
            tag == null ? NONE : tag.often, tag == null ? NONE : tag.act, d.kind == 2 ? d.table : NONE);
    }

    long value(int act) {
        Deed d = deeds.get(act);
        if (d == null || d.kind == 2) return 0L;
        if (d.kind == 1) return d.written;
        return d.done == null ? 0L : d.bestValue;
    }

    int table(int t, int what) {
        if (t < 0 || t >= rules.size()) return NONE;
        Rule rule = rules.get(t);
        if (what == 7) return rule.r;
        if (what == 8) return rule.w;
        return isCopy(what) ? rule.votes.get(what) : NONE;
    }

    int about(int what) {
        return pick(what, n, rules.size(), deeds.size(), way.size(), clock, lost);
    }
}
