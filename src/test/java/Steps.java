/** Steps that several tests take. */
final class Steps {
    static final int[] FAR = {Integer.MIN_VALUE, Integer.MIN_VALUE + 1, -1000, 1000, 1 << 30, Integer.MAX_VALUE - 1,
        Integer.MAX_VALUE};

    private Steps() {
    }

    /** Delivers the first that lies in the air for a copy and a phase, request (0) or answer (1). */
    static boolean pass(VotedFile x, int kind, int copy, int client, int phase) {
        int lying = x.about(3);
        for (int k = 0; k < lying; k++) {
            if (x.air(k, 0) == kind && x.air(k, 1) == copy && x.air(k, 2) == client && x.air(k, 4) == phase) {
                return x.deliver(k);
            }
        }
        return false;
    }

    /** A copy is asked and its answer comes. */
    static boolean exchange(VotedFile x, int copy, int client, int phase) {
        return pass(x, 0, copy, client, phase) && pass(x, 1, copy, client, phase);
    }

    static void loseAll(VotedFile x) {
        for (int k = x.about(3) - 1; k >= 0; k--) {
            x.lose(k);
        }
    }

    /** As many acts as told, by client 3, none of them under way: two calls each. */
    static void makeActs(VotedFile x, int many) {
        for (int a = 0; a < many; a++) {
            x.read(3);
            x.halt(3);
        }
    }

    /** The air of seven copies has as many as told (7 at least): the requests of client 3's read. */
    static void fillAir(VotedFile x, int many) {
        x.read(3);
        int lying = 7;
        for (; lying + 7 <= many; lying += 7) {
            x.again(3);
        }
        for (; lying < many; lying++) {
            x.twice(0);
        }
    }

    /** As many changes as told, each of them done, of an object with one copy: two calls each. */
    static void makeTables(VotedFile x, int many) {
        for (int t = 0; t < many; t++) {
            x.change(1, 1);
            x.settle(6);
        }
    }
}
