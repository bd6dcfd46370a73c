/** Brings letters on their way, so that tests can say what they mean. */
final class Post {
    static final int LOCK = 0;
    static final int GRANT = 1;
    static final int PREPARE = 2;
    static final int PREPARED = 3;
    static final int COMMIT = 4;
    static final int ABORT = 5;
    static final int ASK = 6;

    private Post() {
    }

    /** The place of the first such letter; -1 for none. It costs x no calls. */
    static int find(Stations x, int kind, int from, int to) {
        Stations same = x.again();
        int letters = same.letters();
        for (int i = 0; i < letters; i++) {
            if (same.letter(i, 0) == kind && same.letter(i, 1) == from
                    && same.letter(i, 2) == to) {
                return i;
            }
        }
        return -1;
    }

    static void deliver(Stations x, int kind, int from, int to) {
        x.deliver(find(x, kind, from, to));
    }

    static void loseAll(Stations x) {
        for (int left = x.letters(); left > 0; left--) {
            x.lose(0);
        }
    }

    static void loseAllBut(Stations x, int kind) {
        for (int i = x.letters() - 1; i >= 0; i--) {
            if (x.letter(i, 0) != kind) {
                x.lose(i);
            }
        }
    }

    /** The members (1 << station each) grant the open write of the writer. */
    static void grant(Stations x, int writer, int members) {
        for (int s = 0; s < 5; s++) {
            if (s != writer && (members & 1 << s) != 0) {
                deliver(x, LOCK, writer, s);
                deliver(x, GRANT, s, writer);
            }
        }
    }

    static void prepare(Stations x, int writer, int members) {
        for (int s = 0; s < 5; s++) {
            if (s != writer && (members & 1 << s) != 0) {
                deliver(x, PREPARE, writer, s);
            }
        }
    }

    static void prepared(Stations x, int writer, int members) {
        for (int s = 0; s < 5; s++) {
            if (s != writer && (members & 1 << s) != 0) {
                deliver(x, PREPARED, s, writer);
            }
        }
    }

    static void commit(Stations x, int writer, int members) {
        for (int s = 0; s < 5; s++) {
            if (s != writer && (members & 1 << s) != 0) {
                deliver(x, COMMIT, writer, s);
            }
        }
    }

    /** All of an open write from its beginning on; other letters stay. */
    static void carryThrough(Stations x, int writer, int members) {
        grant(x, writer, members);
        x.decide(writer);
        prepare(x, writer, members);
        prepared(x, writer, members);
        commit(x, writer, members);
    }

    /** The same, and no letter is left. */
    static void finish(Stations x, int writer, int members) {
        carryThrough(x, writer, members);
        loseAll(x);
    }

    static int notice(Stations x, int writer, int members, int area, int from, int to) {
        int number = x.write(writer, area, from, to);
        finish(x, writer, members);
        return number;
    }

    static int withdrawal(Stations x, int writer, int members, int k) {
        int number = x.withdraw(writer, k);
        finish(x, writer, members);
        return number;
    }

    /** An object whose station 0 wrote that many notices alone, after one with 1 and 2. */
    static Stations written(int entries) {
        Stations x = new Stations();
        int[] members = {7, 3, 1};
        for (int k = 0; k < entries; k++) {
            notice(x, 0, members[k < 3 ? k : 2], k % 4, k, 90);
        }
        return x;
    }

    /** An object in which each of the members but 0 is prepared for write 5 of station 0. */
    static Stations inDoubt(int members) {
        Stations x = new Stations();
        x.write(0, 1, 2, 3);
        grant(x, 0, members);
        x.decide(0);
        prepare(x, 0, members);
        return x;
    }

    /** Stations 1 and 2 granted write 9 of station 4, then took part in one of station 0. */
    static Stations overtaken() {
        Stations x = new Stations();
        x.write(4, 0, 0, 0);
        x.twin(find(x, LOCK, 4, 1));
        grant(x, 4, 6);
        x.unlock(1);
        x.unlock(2);
        x.write(0, 1, 1, 1);
        carryThrough(x, 0, 6);
        return x;
    }

    /** So many letters lie there then: the first one again and again. */
    static void fill(Stations x, int letters) {
        for (int lie = x.letters(); lie < letters; lie++) {
            x.twin(0);
        }
    }
}
