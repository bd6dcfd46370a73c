/** The document's Terms, sentence by sentence, where they name a bound or an edge. */
public final class TermsTest {
    private static final Due due = new Due("TermsTest");

    /** "An object is used for at most 512 calls": the last of them is answered as any other. */
    private static void fiveHundredAndTwelveCalls() {
        Stations x = new Stations();
        for (int round = 1; round <= 51; round++) {
            due.is("write " + round, x.write(4, 0, 0, 0), 5 * round + 4);
            for (int n = 0; n < 4; n++) {
                x.lose(0);
            }
            x.giveUp(4);
            for (int n = 0; n < 4; n++) {
                x.lose(0);
            }
        }
        due.is("the 511th call", x.write(4, 0, 0, 0), 264);
        due.is("the 512th call", x.letters(), 4);
        due.is("calls", x.calls(), Stations.MOST_CALLS);
        Stations y = new Stations();
        for (int n = 1; n < 512; n++) {
            due.is("cable " + n, y.cable(0, 1, n % 2 == 0), true);
        }
        due.is("the 512th call", y.cable(0, 1, true), true);
        Stations z = new Stations();
        z.write(0, 0, 0, 0);
        for (int n = 2; n <= 512; n++) {
            due.is("letters, call " + n, z.letters(), 4);
        }
    }

    /** "each UP (at first)", "at first all have", "at first 5 and 0", "at first 0". */
    private static void atFirst() {
        Stations x = new Stations();
        for (int s = 0; s < 5; s++) {
            due.is("at first " + s, Sight.about(x, s), "5 0 0 -1 -1 -1 1");
            due.is("at first an empty book", x.count(s), 0);
        }
        due.is("at first no letters", x.letters(), 0);
        for (int a = 0; a < 5; a++) {
            for (int b = 0; b < a; b++) {
                due.is("at first a cable", x.cable(a, b, true), false);
                due.is("at first a cable", x.cable(b, a, false), true);
            }
        }
    }

    /** "if cables lead from one to the other, over any stations": all sets of cables. */
    private static void everyPiece() {
        for (int cables = 0; cables < 1024; cables++) {
            for (int sender = 0; sender < 5; sender++) {
                Stations x = new Stations();
                x.write(sender, 0, 0, 0);
                int[] piece = {0, 1, 2, 3, 4};
                int bit = 0;
                for (int a = 0; a < 5; a++) {
                    for (int b = a + 1; b < 5; b++) {
                        boolean isThere = (cables >> bit++ & 1) != 0;
                        if (isThere) {
                            join(piece, a, b);
                        } else {
                            x.cable(b, a, false);
                        }
                    }
                }
                for (int i = 3; i >= 0; i--) {
                    int receiver = i < sender ? i : i + 1;
                    due.is("cables " + cables + " from " + sender + " to " + receiver,
                            isDelivered(x, i), piece[sender] == piece[receiver]);
                }
            }
        }
    }

    private static void join(int[] piece, int a, int b) {
        int from = piece[b];
        for (int s = 0; s < 5; s++) {
            piece[s] = piece[s] == from ? piece[a] : piece[s];
        }
    }

    private static boolean isDelivered(Stations x, int i) {
        try {
            return x.deliver(i) == Post.LOCK;
        } catch (IllegalStateException e) {
            return false;
        }
    }

    /** Cables lead over stopped stations too; only the receiver has to be up. */
    private static void piecesOverStoppedOnes() {
        Stations x = new Stations();
        x.write(0, 0, 0, 0);
        for (int a = 0; a < 5; a++) {
            for (int b = a + 2; b < 5; b++) {
                x.cable(a, b, false);
            }
        }
        for (int s = 0; s < 4; s++) {
            x.stop(s);
        }
        due.is("over stopped ones, from a stopped one", x.deliver(3), Post.LOCK);
        x.cable(1, 2, false);
        x.start(0);
        due.isThrown("torn in the middle", Wrong.STATE, x, it -> it.deliver(3));
    }

    /** "TO SEND one is to put it behind the last": whatever the cables, whoever is stopped. */
    private static void toSend() {
        Stations x = Post.inDoubt(7);
        for (int a = 0; a < 5; a++) {
            for (int b = a + 1; b < 5; b++) {
                x.cable(a, b, false);
            }
        }
        x.stop(2);
        x.stop(3);
        x.stop(4);
        x.ask(1, 4);
        due.is("ASK", Sight.lastLetters(x, 1), "6 from 1 to 4 for 5");
        due.is("PREPAREs again", x.resend(0), 2);
        due.is("PREPAREs again", Sight.lastLetters(x, 2), toOthers(Post.PREPARE, 0, 7, 5));
        x.giveUp(0);
        due.is("ABORTs", Sight.lastLetters(x, 4), toOthers(Post.ABORT, 0, 31, 5));
        x.write(0, 0, 0, 0);
        due.is("LOCKs", Sight.lastLetters(x, 4), toOthers(Post.LOCK, 0, 31, 10));
        x.twin(0);
        due.is("a twin", Sight.lastLetters(x, 1), "0 from 0 to 3 for 5");
        due.is("all lie there", x.letters(), 16);
        for (int i = 0; i < 16; i++) {
            int each = i;
            due.isThrown("none arrives", Wrong.STATE, x, it -> it.deliver(each));
        }
    }

    /** "if from <= day <= to, and no withdrawal of its place is in the book." */
    private static void inForce() {
        int[] days = {0, 1, 50, 98, 99};
        for (int from : days) {
            for (int to : days) {
                Stations x = new Stations();
                Post.notice(x, 0, 7, 3, from, to);
                for (int day : days) {
                    isInForce(x, from, to, day);
                    isInForce(x, from, to, day - 1);
                    isInForce(x, from, to, day + 1);
                }
            }
        }
        Stations x = new Stations();
        Post.notice(x, 0, 7, 0, 0, 99);
        Post.notice(x, 0, 7, 0, 0, 99);
        due.is("two", x.inForce(0, 0, 50), 2);
        Post.withdrawal(x, 0, 7, 1);
        due.is("a withdrawal of the other place", x.inForce(0, 0, 50), 1);
        Post.withdrawal(x, 0, 7, 0);
        due.is("a withdrawal of each", x.inForce(0, 0, 50), 0);
        Post.notice(x, 0, 7, 0, 99, 0);
        due.is("from behind to: on no day", x.inForce(0, 0, 50), 0);
        due.is("it is a notice all the same", x.withdraw(0, 4), 30);
    }

    private static void isInForce(Stations x, int from, int to, int day) {
        due.is("from " + from + " to " + to + " on " + day, x.inForce(0, 3, day),
                from <= day && day <= to ? 1 : 0);
    }

    /** "the number is 5 * that + its own", "a LOCK to each other station, the lesser first". */
    private static void toWrite() {
        for (int s = 0; s < 5; s++) {
            Stations x = new Stations();
            for (int began = 1; began <= 3; began++) {
                int number = 5 * began + s;
                due.is("number", x.write(s, 0, 0, 0), number);
                due.is("letters", Sight.letters(x), toOthers(Post.LOCK, s, 31, number));
                due.is("about", Sight.about(x, s),
                        "5 0 " + began + " -1 " + number + " " + number + " 1");
                Post.loseAll(x);
                due.is("again", x.resend(s), 4);
                due.is("letters again", Sight.letters(x), toOthers(Post.LOCK, s, 31, number));
                Post.loseAll(x);
                x.giveUp(s);
                due.is("ABORTs", Sight.letters(x), toOthers(Post.ABORT, s, 31, number));
                Post.loseAll(x);
            }
        }
    }

    /** Letters of a kind from a station to each other one of the group, the lesser first. */
    private static String toOthers(int kind, int from, int group, int number) {
        StringBuilder all = new StringBuilder();
        for (int to = 0; to < 5; to++) {
            if (to != from && (group >> to & 1) != 0) {
                all.append(all.length() == 0 ? "" : ", ").append(kind).append(" from ")
                        .append(from).append(" to ").append(to).append(" for ").append(number);
            }
        }
        return all.toString();
    }

    /** "more than half of the size", "or just half of it with their named one among them". */
    private static void toDecide() {
        goesOn("at first", new Stations());
        for (int group = 1; group < 32; group++) {
            if (Integer.bitCount(group) >= 3) {
                Stations x = new Stations();
                Post.notice(x, least(group), group, 0, 0, 0);
                goesOn("after " + group, x);
            }
        }
        int[][] smaller = {{7, 3}, {7, 6}, {7, 5}, {28, 24}, {28, 20}, {30, 10}, {30, 18},
            {15, 3}, {15, 9}, {15, 14}, {31, 28}, {7, 3, 1}, {28, 20, 4}, {30, 18, 2}};
        for (int[] groups : smaller) {
            Stations x = new Stations();
            for (int group : groups) {
                Post.notice(x, least(group), group, 0, 0, 0);
            }
            goesOn("after " + groups.length + " to " + groups[groups.length - 1], x);
        }
    }

    private static int least(int group) {
        return Integer.numberOfTrailingZeros(group);
    }

    /** All groups that may grant a write now, each with every writer. */
    private static void goesOn(String what, Stations x) {
        for (int group = 1; group < 32; group++) {
            boolean may = may(x.again(), group);
            due.is("20 " + what + ", " + group, x.allowed(group), may);
            for (int writer = 0; writer < 5; writer++) {
                if ((group >> writer & 1) != 0) {
                    decides(what + ", " + group + " for " + writer, x.again(), writer, group, may);
                }
            }
        }
    }

    private static boolean may(Stations x, int group) {
        int most = -1;
        int holders = 0;
        for (int s = 0; s < 5; s++) {
            int entries = (group >> s & 1) != 0 ? x.count(s) : -1;
            if (entries >= most) {
                holders = entries > most ? 1 << s : holders | 1 << s;
                most = entries;
            }
        }
        int size = x.about(least(holders), 0);
        boolean hasNamed = (holders >> x.about(least(holders), 1) & 1) != 0;
        int twice = 2 * Integer.bitCount(holders);
        return twice > size || twice == size && hasNamed;
    }

    private static void decides(String what, Stations x, int writer, int group, boolean may) {
        int number = x.write(writer, 3, 2, 1);
        Post.grant(x, writer, group);
        Post.loseAll(x);
        due.is("5 " + what, x.decide(writer), may);
        due.is("5 PREPAREs " + what, Sight.letters(x),
                may ? toOthers(Post.PREPARE, writer, group, number) : "");
        if (!may) {
            due.is("5 it still collects " + what, x.resend(writer), 5 - Integer.bitCount(group));
            return;
        }
        Post.prepare(x, writer, group);
        Post.prepared(x, writer, group);
        due.is("COMMITs " + what, Sight.letters(x),
                toOthers(Post.COMMIT, writer, group, number));
        Post.commit(x, writer, group);
        for (int s = 0; s < 5; s++) {
            if ((group >> s & 1) != 0) {
                due.is("size " + what, x.about(s, 0), Integer.bitCount(group));
                due.is("named " + what, x.about(s, 1), least(group));
                due.is("the same book " + what, Sight.book(x, s), Sight.book(x, writer));
                due.is("the entry " + what, x.entry(s, x.count(s) - 1, false), 411);
                due.is("its number " + what, x.entry(s, x.count(s) - 1, true), number);
                due.is("nothing open " + what, x.about(s, 3) + x.about(s, 4) + x.about(s, 5), -3);
            }
        }
    }

    /** "with their named one among them": one that granted, but is no holder, is not among them. */
    private static void namedOneIsNoHolder() {
        Stations x = new Stations();
        Post.notice(x, 1, 26, 0, 0, 0);
        x.write(0, 0, 0, 0);
        Post.grant(x, 0, 2);
        x.unlock(1);
        x.write(3, 0, 0, 0);
        Post.carryThrough(x, 3, 2);
        due.is("size two, 1 is named", Sight.about(x, 3), "2 1 1 -1 -1 -1 1");
        Post.grant(x, 0, 8);
        due.is("1 granted with the book before", x.decide(0), false);
        due.is("1 granted, and 3 did", x.resend(0), 2);
    }

    /** "the new book is that of a holder": not the writer's, if that is shorter. */
    private static void writerIsNoHolder() {
        Stations x = Post.written(15);
        x.write(4, 3, 3, 3);
        Post.grant(x, 4, 11);
        due.is("it goes on", x.decide(4), true);
        due.is("it is not in doubt", x.about(4, 3), NoticeStations.NONE);
        due.is("its lock stays", x.about(4, 4), 9);
        due.is("it stores nothing yet", x.count(4), 0);
        Post.prepare(x, 4, 11);
        Post.prepared(x, 4, 3);
        due.is("one is missing", x.count(4), 0);
        Post.prepared(x, 4, 8);
        due.is("all are prepared", Sight.book(x, 4), Sight.book(x, 0) + " 1215#9");
    }

    /** "(stopping changes none of it)": nor does starting. */
    private static void storedWhenStopped() {
        Stations x = Post.written(2);
        x.write(1, 1, 2, 3);
        Post.grant(x, 1, 5);
        x.decide(1);
        Post.prepare(x, 1, 5);
        for (int s = 0; s < 5; s++) {
            x.stop(s);
        }
        due.is("the named one", Sight.about(x, 0) + Sight.book(x, 0),
                "2 0 2 6 -1 -1 0 36000#5 36005#10");
        due.is("the writer", Sight.about(x, 1), "2 0 1 -1 -1 -1 0");
        due.is("one behind", Sight.about(x, 2), "3 0 0 6 -1 -1 0");
        for (int s = 0; s < 5; s++) {
            x.start(s);
        }
        due.is("the named one", Sight.about(x, 0), "2 0 2 6 -1 -1 1");
        due.is("the writer", Sight.about(x, 1), "2 0 1 -1 -1 -1 1");
        due.is("one behind", Sight.about(x, 2), "3 0 0 6 -1 -1 1");
    }

    public static void main(String[] args) {
        fiveHundredAndTwelveCalls();
        atFirst();
        everyPiece();
        piecesOverStoppedOnes();
        toSend();
        inForce();
        toWrite();
        toDecide();
        namedOneIsNoHolder();
        writerIsNoHolder();
        storedWhenStopped();
        due.end();
    }
}
