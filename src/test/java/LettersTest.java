/**
 * Promises 10 to 16: stopping, starting, and the row of letters. What is refused there:
 * RefusedLettersTest.
 */
public final class LettersTest {
    private static final Due due = new Due("LettersTest");

    private static void promise10Stop() {
        Stations x = new Stations();
        Post.notice(x, 0, 7, 1, 2, 3);
        x.write(0, 0, 0, 0);
        Post.deliver(x, Post.LOCK, 0, 1);
        String letters = Sight.letters(x);
        due.is("10 was up", x.stop(0), true);
        due.is("10 was up, locked", x.stop(1), true);
        due.is("10 was stopped", x.stop(0), false);
        due.is("10 what it stores stays, lock and open write do not", Sight.about(x, 0),
                "3 0 2 -1 -1 -1 0");
        due.is("10 no lock", Sight.about(x, 1), "3 0 0 -1 -1 -1 0");
        due.is("10 the book stays", Sight.book(x, 0), " 1209#5");
        due.is("10 letters stay", Sight.letters(x), letters);
        due.changesNothing("10 was stopped", x, it -> it.stop(0));
        for (int no : Wrong.stations()) {
            due.isThrown("10 stop " + no, Wrong.INDEX, x, it -> it.stop(no));
        }
        Stations y = Post.inDoubt(7);
        y.stop(1);
        due.is("10 in doubt all the same", Sight.about(y, 1), "5 0 0 5 -1 -1 0");
        y.start(1);
        Post.prepared(y, 0, 6);
        Post.commit(y, 0, 2);
        due.is("10 what it is prepared for stays", Sight.book(y, 1), " 1209#5");
        due.is("10 size and named one too", Sight.about(y, 1), "3 0 0 -1 -1 -1 1");
    }

    private static void promise11Start() {
        Stations x = new Stations();
        due.is("11 was up", x.start(3), false);
        due.is("11 is up", x.about(3, 6), 1);
        due.changesNothing("11 was up", x, it -> it.start(3));
        x.write(3, 0, 0, 0);
        Post.deliver(x, Post.LOCK, 3, 4);
        x.stop(3);
        x.stop(4);
        due.is("11 was stopped", x.start(3), true);
        due.is("11 was stopped", x.start(4), true);
        due.is("11 once", x.start(4), false);
        due.is("11 without open write", Sight.about(x, 3), "5 0 1 -1 -1 -1 1");
        due.is("11 without lock", Sight.about(x, 4), "5 0 0 -1 -1 -1 1");
        due.is("11 numbers go on", x.write(3, 0, 0, 0), 13);
        Post.deliver(x, Post.LOCK, 3, 0);
        due.is("11 one that is up", x.start(3), false);
        due.is("11 it is without lock and open write too", Sight.about(x, 3), "5 0 2 -1 -1 -1 1");
        due.is("11 one that is up", x.start(0), false);
        due.is("11 it is without lock too", Sight.about(x, 0), "5 0 0 -1 -1 -1 1");
        for (int no : Wrong.stations()) {
            due.isThrown("11 start " + no, Wrong.INDEX, x, it -> it.start(no));
        }
        Stations y = Post.inDoubt(7);
        y.stop(2);
        y.start(2);
        due.is("11 in doubt all the same", Sight.about(y, 2), "5 0 0 5 -1 -1 1");
    }

    private static void promise12Letters() {
        Stations x = new Stations();
        due.is("12 none", x.letters(), 0);
        x.write(0, 0, 0, 0);
        due.is("12 four", x.letters(), 4);
        x.lose(0);
        due.is("12 three", x.letters(), 3);
        Post.fill(x, 40);
        due.is("12 forty", x.letters(), 40);
    }

    private static void promise13Deliver() {
        Stations x = new Stations();
        for (int i : new int[] {0, -1, 40, Integer.MIN_VALUE, Integer.MAX_VALUE}) {
            due.isThrown("13 no letter " + i, Wrong.INDEX, x, it -> it.deliver(i));
        }
        x.write(0, 0, 0, 0);
        due.isThrown("13 no letter 4", Wrong.INDEX, x, it -> it.deliver(4));
        x.stop(2);
        due.isThrown("13 the receiver is stopped", Wrong.STATE, x, it -> it.deliver(1));
        for (int s = 0; s < 5; s++) {
            if (s != 4) {
                x.cable(s, 4, false);
            }
        }
        due.isThrown("13 another piece", Wrong.STATE, x, it -> it.deliver(3));
        due.is("13 kind", x.deliver(2), Post.LOCK);
        due.is("13 out of the row, the answer behind the last", Sight.letters(x),
                "0 from 0 to 1 for 5, 0 from 0 to 2 for 5, 0 from 0 to 4 for 5, "
                        + "1 from 3 to 0 for 5");
        x.stop(3);
        due.is("13 the sender may be stopped", x.deliver(3), Post.GRANT);
    }

    private static void promise14Lose() {
        Stations x = new Stations();
        due.isThrown("14 no letter", Wrong.INDEX, x, it -> it.lose(0));
        x.write(0, 0, 0, 0);
        x.lose(1);
        due.is("14 the others stay", Sight.letters(x),
                "0 from 0 to 1 for 5, 0 from 0 to 3 for 5, 0 from 0 to 4 for 5");
        for (int i : new int[] {3, -1, Integer.MIN_VALUE, Integer.MAX_VALUE}) {
            due.isThrown("14 no letter " + i, Wrong.INDEX, x, it -> it.lose(i));
        }
        x.lose(2);
        x.lose(0);
        due.is("14 one", Sight.letters(x), "0 from 0 to 3 for 5");
        x.lose(0);
        due.is("14 none", x.letters(), 0);
        due.is("14 the station does not know", Sight.about(x, 0), "5 0 1 -1 5 5 1");
    }

    private static void promise15Twin() {
        Stations x = new Stations();
        due.isThrown("15 no letter", Wrong.INDEX, x, it -> it.twin(0));
        x.write(0, 0, 0, 0);
        x.twin(1);
        due.is("15 behind the last", Sight.letters(x), "0 from 0 to 1 for 5, "
                + "0 from 0 to 2 for 5, 0 from 0 to 3 for 5, 0 from 0 to 4 for 5, "
                + "0 from 0 to 2 for 5");
        for (int i : new int[] {5, -1, Integer.MIN_VALUE, Integer.MAX_VALUE}) {
            due.isThrown("15 no letter " + i, Wrong.INDEX, x, it -> it.twin(i));
        }
        Post.fill(x, 39);
        x.twin(38);
        due.is("15 forty", x.letters(), 40);
        due.isThrown("15 forty-one", Wrong.TOO_MUCH, x, it -> it.twin(0));
        due.isThrown("15 forty-one of none", Wrong.INDEX, x, it -> it.twin(40));

        Stations y = new Stations();
        y.write(0, 1, 2, 3);
        Post.grant(y, 0, 6);
        y.decide(0);
        y.twin(Post.find(y, Post.PREPARE, 0, 1));
        y.lose(Post.find(y, Post.PREPARE, 0, 1));
        Post.prepare(y, 0, 6);
        Post.prepared(y, 0, 6);
        Post.commit(y, 0, 6);
        due.is("15 it has all that the first one had", Sight.book(y, 1), " 1209#5");
    }

    private static void promise16Letter() {
        Stations x = new Stations();
        due.isThrown("16 no letter", Wrong.INDEX, x, it -> it.letter(0, 0));
        x.write(3, 0, 0, 0);
        Post.deliver(x, Post.LOCK, 3, 4);
        due.is("16 kind", x.letter(3, 0), Post.GRANT);
        due.is("16 from", x.letter(3, 1), 4);
        due.is("16 to", x.letter(3, 2), 3);
        due.is("16 number", x.letter(3, 3), 8);
        due.is("16 kind of another", x.letter(0, 0), Post.LOCK);
        for (int what : new int[] {-1, 4, Integer.MIN_VALUE, Integer.MAX_VALUE}) {
            due.isThrown("16 what " + what, Wrong.ARGUMENT, x,
                    it -> it.letter(0, what));
            due.isThrown("16 what of none", Wrong.INDEX, x, it -> it.letter(4, what));
        }
        for (int i : new int[] {4, -1, Integer.MIN_VALUE, Integer.MAX_VALUE}) {
            due.isThrown("16 no letter " + i, Wrong.INDEX, x, it -> it.letter(i, 0));
        }
    }

    public static void main(String[] args) {
        promise10Stop();
        promise11Start();
        promise12Letters();
        promise13Deliver();
        promise14Lose();
        promise15Twin();
        promise16Letter();
        due.end();
    }
}
