/** Promises 10 to 16: stopping, starting, and the letters; what each kind does is in 13. */
public final class LettersTest {
    private static final int NONE = NoticeStations.NONE;
    private static final int[] NO_STATIONS = {-1, 5, Integer.MIN_VALUE, Integer.MAX_VALUE};
    private static final Class<IndexOutOfBoundsException> NO_SUCH_INDEX =
            IndexOutOfBoundsException.class;
    private static final Class<IllegalStateException> WRONG_STATE = IllegalStateException.class;
    private static final Class<UnsupportedOperationException> TOO_MUCH =
            UnsupportedOperationException.class;

    private static final Due due = new Due("LettersTest");

    private static void promise10Stop() {
        Stations x = new Stations();
        Post.notice(x, 0, 7, 1, 2, 3);
        x.write(0, 0, 0, 0);
        Post.deliver(x, Post.LOCK, 0, 1);
        String letters = Sight.letters(x);
        due.is("10 was up", x.stop(0), true);
        due.is("10 was up, locked", x.stop(1), true);
        due.is("10 was stopped", x.stop(0), false);
        due.is("10 what it stores stays, lock and open write do not", Sight.about(x, 0),
                "3 0 2 -1 -1 -1 0");
        due.is("10 no lock", Sight.about(x, 1), "3 0 0 -1 -1 -1 0");
        due.is("10 the book stays", Sight.book(x, 0), " 1209#5");
        due.is("10 letters stay", Sight.letters(x), letters);
        for (int no : NO_STATIONS) {
            due.isThrown("10 stop " + no, NO_SUCH_INDEX, x, it -> it.stop(no));
        }
        Stations y = Post.inDoubt(7);
        y.stop(1);
        due.is("10 in doubt all the same", Sight.about(y, 1), "5 0 0 5 -1 -1 0");
        y.start(1);
        Post.prepared(y, 0, 6);
        Post.commit(y, 0, 2);
        due.is("10 what it is prepared for stays", Sight.book(y, 1), " 1209#5");
        due.is("10 size and named one too", Sight.about(y, 1), "3 0 0 -1 -1 -1 1");
    }

    private static void promise11Start() {
        Stations x = new Stations();
        due.is("11 was up", x.start(3), false);
        due.is("11 is up", x.about(3, 6), 1);
        x.write(3, 0, 0, 0);
        Post.deliver(x, Post.LOCK, 3, 4);
        x.stop(3);
        x.stop(4);
        due.is("11 was stopped", x.start(3), true);
        due.is("11 was stopped", x.start(4), true);
        due.is("11 once", x.start(4), false);
        due.is("11 without open write", Sight.about(x, 3), "5 0 1 -1 -1 -1 1");
        due.is("11 without lock", Sight.about(x, 4), "5 0 0 -1 -1 -1 1");
        due.is("11 numbers go on", x.write(3, 0, 0, 0), 13);
        Post.deliver(x, Post.LOCK, 3, 0);
        due.is("11 one that is up", x.start(3), false);
        due.is("11 it is without lock and open write too", Sight.about(x, 3), "5 0 2 -1 -1 -1 1");
        due.is("11 one that is up", x.start(0), false);
        due.is("11 it is without lock too", Sight.about(x, 0), "5 0 0 -1 -1 -1 1");
        for (int no : NO_STATIONS) {
            due.isThrown("11 start " + no, NO_SUCH_INDEX, x, it -> it.start(no));
        }
        Stations y = Post.inDoubt(7);
        y.stop(2);
        y.start(2);
        due.is("11 in doubt all the same", Sight.about(y, 2), "5 0 0 5 -1 -1 1");
    }

    private static void promise12Letters() {
        Stations x = new Stations();
        due.is("12 none", x.letters(), 0);
        x.write(0, 0, 0, 0);
        due.is("12 four", x.letters(), 4);
        x.lose(0);
        due.is("12 three", x.letters(), 3);
        Post.fill(x, 40);
        due.is("12 forty", x.letters(), 40);
    }

    private static void promise13Deliver() {
        Stations x = new Stations();
        for (int i : new int[] {0, -1, 40, Integer.MIN_VALUE, Integer.MAX_VALUE}) {
            due.isThrown("13 no letter " + i, NO_SUCH_INDEX, x, it -> it.deliver(i));
        }
        x.write(0, 0, 0, 0);
        due.isThrown("13 no letter 4", NO_SUCH_INDEX, x, it -> it.deliver(4));
        x.stop(2);
        due.isThrown("13 the receiver is stopped", WRONG_STATE, x, it -> it.deliver(1));
        for (int s = 0; s < 5; s++) {
            if (s != 4) {
                x.cable(s, 4, false);
            }
        }
        due.isThrown("13 another piece", WRONG_STATE, x, it -> it.deliver(3));
        due.is("13 kind", x.deliver(2), Post.LOCK);
        due.is("13 out of the row, the answer behind the last", Sight.letters(x),
                "0 from 0 to 1 for 5, 0 from 0 to 2 for 5, 0 from 0 to 4 for 5, "
                        + "1 from 3 to 0 for 5");
        x.stop(3);
        due.is("13 the sender may be stopped", x.deliver(3), Post.GRANT);
    }

    private static void kind0Lock() {
        Stations x = new Stations();
        x.write(0, 0, 0, 0);
        x.write(1, 0, 0, 0);
        Post.deliver(x, Post.LOCK, 0, 2);
        due.is("LOCK is taken", x.about(2, 4), 5);
        Post.deliver(x, Post.LOCK, 1, 2);
        due.is("LOCK is not taken from another", x.about(2, 4), 5);
        due.is("LOCK no GRANT then", Post.find(x, Post.GRANT, 2, 1), -1);
        Post.deliver(x, Post.LOCK, 1, 0);
        due.is("LOCK no GRANT of one that writes", Post.find(x, Post.GRANT, 0, 1), -1);
        due.is("LOCK its own one stays", x.about(0, 4), 5);
        Post.loseAll(x);
        x.resend(0);
        Post.deliver(x, Post.LOCK, 0, 2);
        due.is("LOCK the same one is granted again", Sight.letter(x, 3), "1 from 2 to 0 for 5");
        x.unlock(2);
        Post.loseAll(x);
        x.resend(1);
        Post.deliver(x, Post.LOCK, 1, 2);
        due.is("LOCK after an unlock", x.about(2, 4), 6);

        Stations y = Post.inDoubt(7);
        y.write(3, 0, 0, 0);
        Post.deliver(y, Post.LOCK, 3, 1);
        due.is("LOCK not in doubt", Sight.about(y, 1), "5 0 0 5 -1 -1 1");
        due.is("LOCK no GRANT in doubt", Post.find(y, Post.GRANT, 1, 3), -1);
    }

    private static void kind1Grant() {
        Stations x = new Stations();
        x.write(0, 0, 0, 0);
        Post.deliver(x, Post.LOCK, 0, 1);
        x.twin(Post.find(x, Post.GRANT, 1, 0));
        Post.deliver(x, Post.GRANT, 1, 0);
        Post.deliver(x, Post.GRANT, 1, 0);
        due.is("GRANT twice is one", x.decide(0), false);
        due.is("GRANT twice is one", x.resend(0), 3);

        Stations y = new Stations();
        y.write(0, 0, 0, 0);
        Post.deliver(y, Post.LOCK, 0, 1);
        Post.deliver(y, Post.LOCK, 0, 2);
        y.giveUp(0);
        y.write(0, 1, 1, 1);
        Post.deliver(y, Post.GRANT, 1, 0);
        Post.deliver(y, Post.GRANT, 2, 0);
        due.is("GRANT of another number", y.decide(0), false);

        Stations z = new Stations();
        z.write(0, 0, 0, 0);
        Post.grant(z, 0, 6);
        Post.deliver(z, Post.LOCK, 0, 3);
        z.decide(0);
        Post.deliver(z, Post.GRANT, 3, 0);
        Post.prepare(z, 0, 6);
        Post.prepared(z, 0, 6);
        due.is("GRANT when it prepares", Sight.about(z, 0), "3 0 1 -1 -1 -1 1");
    }

    /** A GRANT has what was stored when it was sent, not what is stored when it comes. */
    private static void kind1GrantIsAsSent() {
        Stations x = new Stations();
        x.write(4, 0, 0, 0);
        Post.deliver(x, Post.LOCK, 4, 1);
        Post.deliver(x, Post.LOCK, 4, 2);
        x.unlock(1);
        x.unlock(2);
        x.write(0, 1, 1, 1);
        Post.carryThrough(x, 0, 6);
        due.is("GRANT 1 has an entry now", x.count(1), 1);
        Post.deliver(x, Post.GRANT, 1, 4);
        Post.deliver(x, Post.GRANT, 2, 4);
        due.is("GRANT three of five, as sent", x.decide(4), true);
        Post.deliver(x, Post.PREPARE, 4, 1);
        due.is("PREPARE without the lock", Sight.about(x, 1), "3 0 0 -1 -1 -1 1");
        due.is("PREPARE no answer", Post.find(x, Post.PREPARED, 1, 4), -1);
    }

    /** Stations 1 and 2 granted write 9 of station 4, then took part in one of station 0. */
    private static Stations overtaken() {
        Stations x = new Stations();
        x.write(4, 0, 0, 0);
        x.twin(Post.find(x, Post.LOCK, 4, 1));
        Post.grant(x, 4, 6);
        x.unlock(1);
        x.unlock(2);
        x.write(0, 1, 1, 1);
        Post.carryThrough(x, 0, 6);
        return x;
    }

    /** A second GRANT does not change what the first one told. */
    private static void kind1FirstGrantCounts() {
        Stations x = overtaken();
        Post.deliver(x, Post.LOCK, 4, 1);
        Post.deliver(x, Post.GRANT, 1, 4);
        due.is("GRANT 1 holds more now, but granted before", x.decide(4), true);
    }

    private static void kind2Prepare() {
        Stations x = new Stations();
        x.write(0, 1, 2, 3);
        Post.grant(x, 0, 6);
        x.decide(0);
        x.twin(Post.find(x, Post.PREPARE, 0, 1));
        Post.deliver(x, Post.PREPARE, 0, 1);
        due.is("PREPARE the lock is none, it is prepared", Sight.about(x, 1), "5 0 0 5 -1 -1 1");
        due.is("PREPARE the book is not stored yet", x.count(1), 0);
        x.lose(Post.find(x, Post.PREPARED, 1, 0));
        Post.deliver(x, Post.PREPARE, 0, 1);
        due.is("PREPARE once more", Sight.letter(x, x.letters() - 1), "3 from 1 to 0 for 5");
        x.unlock(2);
        Post.deliver(x, Post.PREPARE, 0, 2);
        due.is("PREPARE without lock", Sight.about(x, 2), "5 0 0 -1 -1 -1 1");
        due.is("PREPARE no answer", Post.find(x, Post.PREPARED, 2, 0), -1);
    }

    /** Station 1 has the lock again, but its book is as long as the letter's. */
    private static void kind2PrepareNotShorter() {
        Stations x = overtaken();
        x.decide(4);
        Post.deliver(x, Post.LOCK, 4, 1);
        due.is("PREPARE it is locked", x.about(1, 4), 9);
        Post.deliver(x, Post.PREPARE, 4, 1);
        due.is("PREPARE not shorter", Sight.about(x, 1), "3 0 0 -1 9 -1 1");
        due.is("PREPARE no answer", Post.find(x, Post.PREPARED, 1, 4), -1);
    }

    /** Station 1 stored the letter's book already; LOCK and PREPARE come once more. */
    private static void kind2PrepareOfWhatIsStored() {
        Stations x = new Stations();
        x.write(0, 1, 2, 3);
        x.twin(Post.find(x, Post.LOCK, 0, 1));
        Post.grant(x, 0, 6);
        x.decide(0);
        x.twin(Post.find(x, Post.PREPARE, 0, 1));
        Post.prepare(x, 0, 6);
        Post.prepared(x, 0, 6);
        Post.commit(x, 0, 6);
        Post.deliver(x, Post.LOCK, 0, 1);
        due.is("PREPARE it is locked", x.about(1, 4), 5);
        Post.deliver(x, Post.GRANT, 1, 0);
        due.is("GRANT without an open write", Sight.about(x, 0), "3 0 1 -1 -1 -1 1");
        Post.deliver(x, Post.PREPARE, 0, 1);
        due.is("PREPARE the same book", Sight.about(x, 1), "3 0 0 -1 5 -1 1");
        due.is("PREPARE no answer", Post.find(x, Post.PREPARED, 1, 0), -1);
    }

    private static void kind3Prepared() {
        Stations x = Post.inDoubt(7);
        x.twin(Post.find(x, Post.PREPARED, 1, 0));
        Post.deliver(x, Post.PREPARED, 1, 0);
        Post.deliver(x, Post.PREPARED, 1, 0);
        due.is("PREPARED twice is one", Sight.about(x, 0), "5 0 1 -1 5 5 1");
        Post.deliver(x, Post.PREPARED, 2, 0);
        due.is("PREPARED all: it commits", Sight.about(x, 0), "3 0 1 -1 -1 -1 1");
        due.is("PREPARED it stores", Sight.book(x, 0), " 1209#5");
        due.is("PREPARED the COMMITs, the lesser one first",
                Sight.letter(x, x.letters() - 2) + ", " + Sight.letter(x, x.letters() - 1),
                "4 from 0 to 1 for 5, 4 from 0 to 2 for 5");

        Stations y = Post.inDoubt(15);
        y.giveUp(0);
        Post.deliver(y, Post.PREPARED, 1, 0);
        due.is("PREPARED without an open write", Sight.about(y, 0), "5 0 1 -1 -1 -1 1");
        y.write(0, 0, 0, 0);
        Post.deliver(y, Post.PREPARED, 2, 0);
        due.is("PREPARED of another number, and it collects", Sight.about(y, 0),
                "5 0 2 -1 10 10 1");
        Post.deliver(y, Post.ABORT, 0, 2);
        Post.deliver(y, Post.ABORT, 0, 3);
        y.lose(Post.find(y, Post.LOCK, 0, 3));
        y.lose(Post.find(y, Post.LOCK, 0, 4));
        y.resend(0);
        y.lose(Post.find(y, Post.LOCK, 0, 2));
        Post.grant(y, 0, 12);
        y.decide(0);
        Post.deliver(y, Post.PREPARE, 0, 2);
        Post.deliver(y, Post.PREPARED, 2, 0);
        Post.deliver(y, Post.PREPARED, 3, 0);
        due.is("PREPARED of another number, and it prepares", Sight.about(y, 0),
                "5 0 2 -1 10 10 1");
    }

    private static void kind3PreparedWithManyLetters() {
        Stations x = Post.inDoubt(7);
        Post.deliver(x, Post.PREPARED, 1, 0);
        Post.fill(x, 40);
        int last = Post.find(x, Post.PREPARED, 2, 0);
        due.isThrown("PREPARED 41 letters", TOO_MUCH, x, it -> it.deliver(last));
        x.lose(0);
        x.deliver(Post.find(x, Post.PREPARED, 2, 0));
        due.is("PREPARED 40 letters", x.letters(), 40);
        due.is("PREPARED it commits", x.count(0), 1);

        Stations y = Post.inDoubt(15);
        Post.fill(y, 40);
        y.deliver(Post.find(y, Post.PREPARED, 1, 0));
        due.is("PREPARED not yet all, so none is sent", y.letters(), 39);
        y.deliver(Post.find(y, Post.PREPARED, 2, 0));
        Post.fill(y, 39);
        int third = Post.find(y, Post.PREPARED, 3, 0);
        due.isThrown("PREPARED 41 letters", TOO_MUCH, y, it -> it.deliver(third));
        y.cable(0, 3, false);
        y.cable(1, 3, false);
        y.cable(2, 3, false);
        y.cable(4, 3, false);
        due.isThrown("PREPARED 41 letters, another piece", WRONG_STATE, y, it -> it.deliver(third));

        Stations z = new Stations();
        z.write(0, 0, 0, 0);
        Post.fill(z, 40);
        due.is("one answer always has room", z.deliver(0), Post.LOCK);
        due.is("one answer always has room", z.letters(), 40);
    }

    private static void kind4Commit() {
        Stations x = Post.inDoubt(7);
        Post.prepared(x, 0, 6);
        x.twin(Post.find(x, Post.COMMIT, 0, 1));
        due.is("COMMIT before", Sight.about(x, 1), "5 0 0 5 -1 -1 1");
        Post.deliver(x, Post.COMMIT, 0, 1);
        due.is("COMMIT size, named one, not prepared", Sight.about(x, 1), "3 0 0 -1 -1 -1 1");
        due.is("COMMIT the book", Sight.book(x, 1), " 1209#5");
        String before = Sight.about(x, 1) + Sight.book(x, 1);
        Post.deliver(x, Post.COMMIT, 0, 1);
        due.is("COMMIT twice", Sight.about(x, 1) + Sight.book(x, 1), before);
        x.twin(Post.find(x, Post.COMMIT, 0, 2));
        Post.deliver(x, Post.COMMIT, 0, 2);
        x.write(1, 0, 0, 0);
        Post.grant(x, 1, 4);
        x.decide(1);
        Post.deliver(x, Post.PREPARE, 1, 2);
        Post.deliver(x, Post.COMMIT, 0, 2);
        due.is("COMMIT of another number", Sight.about(x, 2), "3 0 0 6 -1 -1 1");
    }

    private static void kind5Abort() {
        Stations x = Post.inDoubt(7);
        Post.deliver(x, Post.LOCK, 0, 3);
        x.giveUp(0);
        Post.deliver(x, Post.ABORT, 0, 1);
        due.is("ABORT not prepared any more", Sight.about(x, 1), "5 0 0 -1 -1 -1 1");
        due.is("ABORT nothing is stored", x.count(1), 0);
        Post.deliver(x, Post.ABORT, 0, 3);
        due.is("ABORT not locked any more", Sight.about(x, 3), "5 0 0 -1 -1 -1 1");
        x.write(4, 0, 0, 0);
        Post.deliver(x, Post.ABORT, 0, 4);
        due.is("ABORT of another number, an open write", Sight.about(x, 4), "5 0 1 -1 9 9 1");
        x.twin(Post.find(x, Post.ABORT, 0, 2));
        Post.deliver(x, Post.ABORT, 0, 2);
        Post.deliver(x, Post.LOCK, 4, 2);
        Post.deliver(x, Post.ABORT, 0, 2);
        due.is("ABORT of another number, a lock", Sight.about(x, 2), "5 0 0 -1 9 -1 1");
        due.is("ABORT is not answered", Post.find(x, Post.ABORT, 2, 0), -1);
    }

    private static void kind5AbortInDoubtOfAnother() {
        Stations x = new Stations();
        x.write(3, 0, 0, 0);
        x.giveUp(3);
        x.write(0, 0, 0, 0);
        Post.grant(x, 0, 6);
        x.decide(0);
        Post.prepare(x, 0, 6);
        Post.deliver(x, Post.ABORT, 3, 1);
        due.is("ABORT of another number, in doubt", x.about(1, 3), 5);
    }

    /** The answer to an ASK of one station at another: its kind, or NONE. */
    private static int answer(Stations x, int asker, int other) {
        Post.loseAll(x);
        x.ask(asker, other);
        x.deliver(0);
        if (x.letters() == 0) {
            return NONE;
        }
        due.is("ASK the answer", Sight.letters(x),
                x.letter(0, 0) + " from " + other + " to " + asker + " for " + x.about(asker, 3));
        return x.letter(0, 0);
    }

    private static void kind6Ask() {
        Stations x = Post.inDoubt(15);
        due.is("ASK the writer, it is open", answer(x, 1, 0), NONE);
        due.is("ASK another in doubt", answer(x, 1, 2), NONE);
        due.is("ASK one that knows nothing", answer(x, 1, 4), NONE);
        x.resend(0);
        Post.prepare(x, 0, 14);
        Post.prepared(x, 0, 14);
        Post.deliver(x, Post.COMMIT, 0, 3);
        due.is("ASK the writer, it committed", answer(x, 1, 0), Post.COMMIT);
        due.is("ASK another that has it", answer(x, 1, 3), Post.COMMIT);
        due.is("ASK one in doubt", answer(x, 1, 2), NONE);
        due.is("ASK one that has nothing", answer(x, 1, 4), NONE);
        due.is("ASK the COMMIT comes", answer(x, 2, 3), Post.COMMIT);
        x.deliver(0);
        due.is("ASK and does its work", Sight.about(x, 2), "4 0 0 -1 -1 -1 1");

        Stations y = Post.inDoubt(7);
        y.giveUp(0);
        due.is("ASK the writer, given up", answer(y, 1, 0), Post.ABORT);
        y.write(0, 0, 0, 0);
        due.is("ASK the writer, another one open", answer(y, 1, 0), Post.ABORT);
        y.stop(0);
        y.start(0);
        due.is("ASK the writer, after a stop", answer(y, 2, 0), Post.ABORT);
        y.deliver(0);
        due.is("ASK the ABORT does its work", Sight.about(y, 2), "5 0 0 -1 -1 -1 1");
    }

    /** Station 1 is in doubt of write 9, at place 0 of the book; others fill that place. */
    private static void kind6AskOneThatHasAsMany() {
        Stations x = new Stations();
        x.write(4, 0, 0, 0);
        Post.grant(x, 4, 14);
        x.decide(4);
        Post.deliver(x, Post.PREPARE, 4, 1);
        x.unlock(2);
        x.unlock(3);
        x.write(0, 1, 1, 1);
        Post.loseAll(x);
        x.resend(0);
        Post.grant(x, 0, 12);
        due.is("ASK one that has fewer", answer(x, 1, 2), NONE);
        due.is("ASK the others go on", x.decide(0), true);
        Post.prepare(x, 0, 12);
        Post.prepared(x, 0, 12);
        due.is("ASK one that has as many", answer(x, 1, 0), Post.ABORT);
        x.stop(1);
        x.start(1);
        due.is("ASK one in doubt itself", answer(x, 1, 3), NONE);
        due.is("ASK the writer, still open", answer(x, 1, 4), NONE);
    }

    private static void promise14Lose() {
        Stations x = new Stations();
        due.isThrown("14 no letter", NO_SUCH_INDEX, x, it -> it.lose(0));
        x.write(0, 0, 0, 0);
        x.lose(1);
        due.is("14 the others stay", Sight.letters(x),
                "0 from 0 to 1 for 5, 0 from 0 to 3 for 5, 0 from 0 to 4 for 5");
        for (int i : new int[] {3, -1, Integer.MIN_VALUE, Integer.MAX_VALUE}) {
            due.isThrown("14 no letter " + i, NO_SUCH_INDEX, x, it -> it.lose(i));
        }
        x.lose(2);
        x.lose(0);
        due.is("14 one", Sight.letters(x), "0 from 0 to 3 for 5");
        x.lose(0);
        due.is("14 none", x.letters(), 0);
        due.is("14 the station does not know", Sight.about(x, 0), "5 0 1 -1 5 5 1");
    }

    private static void promise15Twin() {
        Stations x = new Stations();
        due.isThrown("15 no letter", NO_SUCH_INDEX, x, it -> it.twin(0));
        x.write(0, 0, 0, 0);
        x.twin(1);
        due.is("15 behind the last", Sight.letters(x), "0 from 0 to 1 for 5, "
                + "0 from 0 to 2 for 5, 0 from 0 to 3 for 5, 0 from 0 to 4 for 5, "
                + "0 from 0 to 2 for 5");
        for (int i : new int[] {5, -1, Integer.MIN_VALUE, Integer.MAX_VALUE}) {
            due.isThrown("15 no letter " + i, NO_SUCH_INDEX, x, it -> it.twin(i));
        }
        Post.fill(x, 39);
        x.twin(38);
        due.is("15 forty", x.letters(), 40);
        due.isThrown("15 forty-one", TOO_MUCH, x, it -> it.twin(0));
        due.isThrown("15 forty-one of none", NO_SUCH_INDEX, x, it -> it.twin(40));

        Stations y = new Stations();
        y.write(0, 1, 2, 3);
        Post.grant(y, 0, 6);
        y.decide(0);
        y.twin(Post.find(y, Post.PREPARE, 0, 1));
        y.lose(Post.find(y, Post.PREPARE, 0, 1));
        Post.prepare(y, 0, 6);
        Post.prepared(y, 0, 6);
        Post.commit(y, 0, 6);
        due.is("15 it has all that the first one had", Sight.book(y, 1), " 1209#5");
    }

    private static void promise16Letter() {
        Stations x = new Stations();
        due.isThrown("16 no letter", NO_SUCH_INDEX, x, it -> it.letter(0, 0));
        x.write(3, 0, 0, 0);
        Post.deliver(x, Post.LOCK, 3, 4);
        due.is("16 kind", x.letter(3, 0), Post.GRANT);
        due.is("16 from", x.letter(3, 1), 4);
        due.is("16 to", x.letter(3, 2), 3);
        due.is("16 number", x.letter(3, 3), 8);
        due.is("16 kind of another", x.letter(0, 0), Post.LOCK);
        for (int what : new int[] {-1, 4, Integer.MIN_VALUE, Integer.MAX_VALUE}) {
            due.isThrown("16 what " + what, IllegalArgumentException.class, x,
                    it -> it.letter(0, what));
            due.isThrown("16 what of none", NO_SUCH_INDEX, x, it -> it.letter(4, what));
        }
        for (int i : new int[] {4, -1, Integer.MIN_VALUE, Integer.MAX_VALUE}) {
            due.isThrown("16 no letter " + i, NO_SUCH_INDEX, x, it -> it.letter(i, 0));
        }
    }

    public static void main(String[] args) {
        promise10Stop();
        promise11Start();
        promise12Letters();
        promise13Deliver();
        kind0Lock();
        kind1Grant();
        kind1GrantIsAsSent();
        kind1FirstGrantCounts();
        kind2Prepare();
        kind2PrepareNotShorter();
        kind2PrepareOfWhatIsStored();
        kind3Prepared();
        kind3PreparedWithManyLetters();
        kind4Commit();
        kind5Abort();
        kind5AbortInDoubtOfAnother();
        kind6Ask();
        kind6AskOneThatHasAsMany();
        promise14Lose();
        promise15Twin();
        promise16Letter();
        due.end();
    }
}
