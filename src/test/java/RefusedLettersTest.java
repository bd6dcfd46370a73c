/**
 * Promises 12 to 16, the row of letters: empty and full, the last letter that there is beside the
 * first that there is not, and which of several reasons is told. Of every call that throws it is
 * tested that it changes nothing.
 */
public final class RefusedLettersTest {
    private static final Due due = new Due("RefusedLettersTest");

    /** "IndexOutOfBoundsException: there is no such letter", before all else. */
    private static void noSuchLetter() {
        Stations one = new Stations();
        one.write(0, 0, 0, 0);
        for (int n = 0; n < 3; n++) {
            one.lose(0);
        }
        Stations full = one.again();
        Post.fill(full, 40);
        full.stop(4);
        hasOnly(new Stations(), 0);
        hasOnly(one, 1);
        hasOnly(full, 40);
    }

    private static void hasOnly(Stations x, int letters) {
        due.is("12 letters", x.letters(), letters);
        for (int i : Wrong.beside(letters)) {
            String what = " of letter " + i + " of " + letters;
            due.isThrown("13 deliver" + what, Wrong.INDEX, x, it -> it.deliver(i));
            due.isThrown("14 lose" + what, Wrong.INDEX, x, it -> it.lose(i));
            due.isThrown("15 twin" + what, Wrong.INDEX, x, it -> it.twin(i));
            for (int asked : new int[] {-1, 0, 3, 4}) {
                due.isThrown("16 letter" + what, Wrong.INDEX, x, it -> it.letter(i, asked));
            }
        }
    }

    /** The first and the last letter of a row, of one alone and of a full one. */
    private static void firstAndLastLetter() {
        for (int letters : new int[] {1, 2, 40}) {
            for (int i : new int[] {0, letters - 1}) {
                Stations x = new Stations();
                x.write(0, 0, 0, 0);
                x.twin(2);
                Post.fill(x, 40);
                for (int lie = 40; lie > letters; lie--) {
                    x.lose(0);
                }
                String what = "letter " + i + " of " + letters;
                due.is("16 " + what, x.letter(i, 0), Post.LOCK);
                Stations lost = x.again();
                lost.lose(i);
                due.is("14 " + what, lost.letters(), letters - 1);
                Stations delivered = x.again();
                due.is("13 " + what, delivered.deliver(i), Post.LOCK);
                if (letters < 40) {
                    Stations twinned = x.again();
                    twinned.twin(i);
                    due.is("15 " + what, twinned.letters(), letters + 1);
                    due.is("15 " + what, Sight.letter(twinned, letters), Sight.letter(x, i));
                }
            }
        }
    }

    /** "IllegalStateException when sender and receiver are not in one piece." */
    private static void deliverToAnotherPiece() {
        Stations x = new Stations();
        x.write(2, 0, 0, 0);
        for (int s = 0; s < 4; s++) {
            x.cable(s, 4, false);
        }
        due.isThrown("13 another piece", Wrong.STATE, x, it -> it.deliver(3));
        for (int s = 0; s < 3; s++) {
            int inPiece = s;
            due.is("13 in one piece", x.again().deliver(inPiece), Post.LOCK);
        }
        Stations over = x.again();
        over.cable(0, 4, true);
        over.cable(0, 2, false);
        due.is("13 over others", over.deliver(3), Post.LOCK);
        x.stop(4);
        due.isThrown("13 another piece, stopped", Wrong.STATE, x, it -> it.deliver(3));
        x.start(4);
        x.cable(2, 4, true);
        due.is("13 the cable is there again", x.deliver(3), Post.LOCK);
        x.cable(2, 4, false);
        due.isThrown("13 not back either", Wrong.STATE, x, it -> it.deliver(3));
    }

    /** "or the receiver is stopped"; a sender that is stopped does not matter. */
    private static void deliverToAStoppedOne() {
        Stations x = Post.inDoubt(7);
        x.ask(1, 2);
        x.ask(1, 3);
        x.giveUp(0);
        x.stop(0);
        for (int s = 1; s < 5; s++) {
            x.stop(s);
        }
        int letters = x.letters();
        for (int i = 0; i < letters; i++) {
            int each = i;
            due.isThrown("13 stopped, letter " + i, Wrong.STATE, x, it -> it.deliver(each));
        }
        for (int s = 1; s < 5; s++) {
            x.start(s);
        }
        for (int i = 0; i < letters; i++) {
            int each = i;
            if (x.letter(i, 2) == 0) {
                due.isThrown("13 still stopped", Wrong.STATE, x, it -> it.deliver(each));
            } else {
                due.is("13 started", x.again().deliver(i), x.letter(i, 0));
            }
        }
    }

    /** "(one that is delivered does not count)": a PREPARED that makes 0 commit sends many. */
    private static void deliverThatCommits() {
        for (int group : new int[] {7, 15, 31}) {
            int others = Integer.bitCount(group) - 1;
            Stations x = lastPreparedLies(group);
            commitsWithin(x, others);
        }
        // In a group of two the one COMMIT takes the place of the PREPARED, so it always fits.
        Stations two = Post.written(1);
        two.write(0, 0, 0, 0);
        Post.grant(two, 0, 2);
        two.decide(0);
        Post.prepare(two, 0, 2);
        Post.fill(two, 40);
        int at = Post.find(two, Post.PREPARED, 1, 0);
        due.is("13 one COMMIT with 40 letters", two.deliver(at), Post.PREPARED);
        due.is("13 one COMMIT with 40 letters", two.letters(), 40);
        due.is("13 one COMMIT with 40 letters", Sight.lastLetters(two, 1), "4 from 0 to 1 for 10");
    }

    /** Station 0 waits for the last PREPARED, and that lies in the row. */
    private static Stations lastPreparedLies(int group) {
        Stations x = new Stations();
        x.write(0, 0, 0, 0);
        x.twin(0);
        Post.grant(x, 0, group);
        x.decide(0);
        Post.prepare(x, 0, group);
        Post.prepared(x, 0, group & ~last(group));
        return x;
    }

    private static int last(int group) {
        return Integer.highestOneBit(group);
    }

    private static void commitsWithin(Stations x, int others) {
        for (int letters = 38; letters <= 40; letters++) {
            Stations many = x.again();
            Post.fill(many, letters);
            int at = Post.find(many, Post.PREPARED, others, 0);
            String what = "13 " + letters + " letters and " + others + " COMMITs";
            if (letters - 1 + others > 40) {
                due.isThrown(what, Wrong.TOO_MUCH, many, it -> it.deliver(at));
            } else {
                due.is(what, many.deliver(at), Post.PREPARED);
                due.is(what, many.letters(), letters - 1 + others);
                due.is(what, many.count(0), 1);
            }
        }
        Stations just = x.again();
        Post.fill(just, 41 - others);
        just.deliver(Post.find(just, Post.PREPARED, others, 0));
        due.is("13 just 40 with " + others, just.letters(), 40);
        Stations torn = x.again();
        Post.fill(torn, 40);
        for (int s = 1; s < 5; s++) {
            torn.cable(0, s, false);
        }
        int at = Post.find(torn, Post.PREPARED, others, 0);
        due.isThrown("13 another piece, too many", Wrong.STATE, torn, it -> it.deliver(at));
        torn.stop(0);
        due.isThrown("13 stopped, too many", Wrong.STATE, torn, it -> it.deliver(at));
    }

    /** A full row refuses no letter that sends at most one. */
    private static void deliverInAFullRow() {
        Stations x = Post.inDoubt(15);
        x.ask(1, 0);
        Post.deliver(x, Post.PREPARED, 1, 0);
        x.twin(Post.find(x, Post.PREPARED, 2, 0));
        Post.deliver(x, Post.PREPARED, 2, 0);
        Post.fill(x, 40);
        due.is("13 LOCK, answered", leavesOf(x, Post.LOCK, 0, 4), 40);
        due.is("13 ASK, not answered", leavesOf(x, Post.ASK, 1, 0), 39);
        due.is("13 PREPARED of one that is prepared", leavesOf(x, Post.PREPARED, 2, 0), 39);
        Stations y = new Stations();
        y.write(0, 0, 0, 0);
        Post.grant(y, 0, 6);
        Post.deliver(y, Post.LOCK, 0, 3);
        y.decide(0);
        Post.fill(y, 40);
        due.is("13 GRANT", leavesOf(y, Post.GRANT, 3, 0), 39);
        due.is("13 PREPARE, answered", leavesOf(y, Post.PREPARE, 0, 1), 40);
        Stations z = Post.inDoubt(7);
        z.ask(1, 0);
        z.giveUp(0);
        Post.fill(z, 40);
        due.is("13 ASK, answered by an ABORT", leavesOf(z, Post.ASK, 1, 0), 40);
        due.is("13 ABORT", leavesOf(z, Post.ABORT, 0, 1), 39);
        due.is("13 PREPARED without an open write", leavesOf(z, Post.PREPARED, 2, 0), 39);
        Stations w = Post.inDoubt(7);
        w.ask(1, 0);
        Post.prepared(w, 0, 6);
        Post.fill(w, 40);
        due.is("13 ASK, answered by a COMMIT", leavesOf(w, Post.ASK, 1, 0), 40);
        due.is("13 COMMIT", leavesOf(w, Post.COMMIT, 0, 1), 39);
    }

    /** How many letters lie there when this one was delivered. */
    private static int leavesOf(Stations x, int kind, int from, int to) {
        Stations after = x.again();
        due.is("13 kind", after.deliver(Post.find(after, kind, from, to)), kind);
        return after.letters();
    }

    /** "UnsupportedOperationException: there would be more than 40 letters." */
    private static void twinInAFullRow() {
        Stations x = new Stations();
        x.write(0, 0, 0, 0);
        Post.fill(x, 39);
        x.twin(38);
        due.is("15 the fortieth", x.letters(), 40);
        for (int i : new int[] {0, 20, 39}) {
            due.isThrown("15 the forty-first", Wrong.TOO_MUCH, x, it -> it.twin(i));
        }
        for (int i : Wrong.beside(40)) {
            due.isThrown("15 the forty-first of none", Wrong.INDEX, x, it -> it.twin(i));
        }
        x.lose(39);
        x.twin(0);
        due.is("15 room again", x.letters(), 40);
    }

    /** "IllegalArgumentException when what is none of these": 0 .. 3, of each kind of letter. */
    private static void letterOfNothing() {
        Stations x = Post.inDoubt(7);
        x.ask(1, 2);
        x.giveUp(0);
        int letters = x.letters();
        for (int i = 0; i < letters; i++) {
            int each = i;
            for (int what : Wrong.beside(4)) {
                due.isThrown("16 what " + what, Wrong.ARGUMENT, x, it -> it.letter(each, what));
            }
        }
        due.is("16 all that is to be told", Sight.letters(x), "0 from 0 to 3 for 5, "
                + "0 from 0 to 4 for 5, 3 from 1 to 0 for 5, 3 from 2 to 0 for 5, "
                + "6 from 1 to 2 for 5, 5 from 0 to 1 for 5, 5 from 0 to 2 for 5, "
                + "5 from 0 to 3 for 5, 5 from 0 to 4 for 5");
    }

    public static void main(String[] args) {
        noSuchLetter();
        firstAndLastLetter();
        deliverToAnotherPiece();
        deliverToAStoppedOne();
        deliverThatCommits();
        deliverInAFullRow();
        twinInAFullRow();
        letterOfNothing();
        due.end();
    }
}
