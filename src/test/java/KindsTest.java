/** Promise 13, TO DELIVER: what each kind of letter does. When it does nothing: IdleLettersTest. */
public final class KindsTest {
    private static final int NONE = NoticeStations.NONE;

    private static final Due due = new Due("KindsTest");

    private static void kind0Lock() {
        Stations x = new Stations();
        x.write(0, 0, 0, 0);
        x.write(1, 0, 0, 0);
        Post.deliver(x, Post.LOCK, 0, 2);
        due.is("LOCK is taken", x.about(2, 4), 5);
        Post.deliver(x, Post.LOCK, 1, 2);
        due.is("LOCK is not taken from another", x.about(2, 4), 5);
        due.is("LOCK no GRANT then", Post.find(x, Post.GRANT, 2, 1), -1);
        Post.deliver(x, Post.LOCK, 1, 0);
        due.is("LOCK no GRANT of one that writes", Post.find(x, Post.GRANT, 0, 1), -1);
        due.is("LOCK its own one stays", x.about(0, 4), 5);
        Post.loseAll(x);
        x.resend(0);
        Post.deliver(x, Post.LOCK, 0, 2);
        due.is("LOCK the same one is granted again", Sight.letter(x, 3), "1 from 2 to 0 for 5");
        x.unlock(2);
        Post.loseAll(x);
        x.resend(1);
        Post.deliver(x, Post.LOCK, 1, 2);
        due.is("LOCK after an unlock", x.about(2, 4), 6);

        Stations y = Post.inDoubt(7);
        y.write(3, 0, 0, 0);
        Post.deliver(y, Post.LOCK, 3, 1);
        due.is("LOCK not in doubt", Sight.about(y, 1), "5 0 0 5 -1 -1 1");
        due.is("LOCK no GRANT in doubt", Post.find(y, Post.GRANT, 1, 3), -1);
    }

    private static void kind1Grant() {
        Stations x = new Stations();
        x.write(0, 0, 0, 0);
        Post.deliver(x, Post.LOCK, 0, 1);
        x.twin(Post.find(x, Post.GRANT, 1, 0));
        Post.deliver(x, Post.GRANT, 1, 0);
        Post.deliver(x, Post.GRANT, 1, 0);
        due.is("GRANT twice is one", x.decide(0), false);
        due.is("GRANT twice is one", x.resend(0), 3);

        Stations y = new Stations();
        y.write(0, 0, 0, 0);
        Post.deliver(y, Post.LOCK, 0, 1);
        Post.deliver(y, Post.LOCK, 0, 2);
        y.giveUp(0);
        y.write(0, 1, 1, 1);
        Post.deliver(y, Post.GRANT, 1, 0);
        Post.deliver(y, Post.GRANT, 2, 0);
        due.is("GRANT of another number", y.decide(0), false);

        Stations z = new Stations();
        z.write(0, 0, 0, 0);
        Post.grant(z, 0, 6);
        Post.deliver(z, Post.LOCK, 0, 3);
        z.decide(0);
        Post.deliver(z, Post.GRANT, 3, 0);
        Post.prepare(z, 0, 6);
        Post.prepared(z, 0, 6);
        due.is("GRANT when it prepares", Sight.about(z, 0), "3 0 1 -1 -1 -1 1");
    }

    /** A GRANT has what was stored when it was sent, not what is stored when it comes. */
    private static void kind1GrantIsAsSent() {
        Stations x = new Stations();
        Post.notice(x, 0, 7, 0, 0, 0);
        x.write(4, 0, 0, 0);
        Post.deliver(x, Post.LOCK, 4, 1);
        x.unlock(1);
        x.write(0, 1, 1, 1);
        Post.carryThrough(x, 0, 2);
        due.is("GRANT 1 is one of two now", Sight.about(x, 1), "2 0 0 -1 -1 -1 1");
        Post.deliver(x, Post.GRANT, 1, 4);
        Post.grant(x, 4, 4);
        due.is("GRANT two of three, as sent", x.decide(4), true);
        due.doesNothing("PREPARE of one that went on", x, Post.PREPARE, 4, 1);
    }

    /** A second GRANT does not change what the first one told. */
    private static void kind1FirstGrantCounts() {
        Stations x = Post.overtaken();
        Post.deliver(x, Post.LOCK, 4, 1);
        Post.deliver(x, Post.GRANT, 1, 4);
        due.is("GRANT 1 holds more now, but granted before", x.decide(4), true);
    }

    private static void kind2Prepare() {
        Stations x = new Stations();
        x.write(0, 1, 2, 3);
        Post.grant(x, 0, 6);
        x.decide(0);
        x.twin(Post.find(x, Post.PREPARE, 0, 1));
        Post.deliver(x, Post.PREPARE, 0, 1);
        due.is("PREPARE the lock is none, it is prepared", Sight.about(x, 1), "5 0 0 5 -1 -1 1");
        due.is("PREPARE the book is not stored yet", x.count(1), 0);
        x.lose(Post.find(x, Post.PREPARED, 1, 0));
        Post.deliver(x, Post.PREPARE, 0, 1);
        due.is("PREPARE once more", Sight.letter(x, x.letters() - 1), "3 from 1 to 0 for 5");
        x.unlock(2);
        Post.deliver(x, Post.PREPARE, 0, 2);
        due.is("PREPARE without lock", Sight.about(x, 2), "5 0 0 -1 -1 -1 1");
        due.is("PREPARE no answer", Post.find(x, Post.PREPARED, 2, 0), -1);
    }

    /** Station 1 has the lock again, but its book is as long as the letter's. */
    private static void kind2PrepareNotShorter() {
        Stations x = Post.overtaken();
        x.decide(4);
        Post.deliver(x, Post.LOCK, 4, 1);
        due.is("PREPARE it is locked", x.about(1, 4), 9);
        Post.deliver(x, Post.PREPARE, 4, 1);
        due.is("PREPARE not shorter", Sight.about(x, 1), "3 0 0 -1 9 -1 1");
        due.is("PREPARE no answer", Post.find(x, Post.PREPARED, 1, 4), -1);
    }

    /** Station 1 stored the letter's book already; LOCK and PREPARE come once more. */
    private static void kind2PrepareOfWhatIsStored() {
        Stations x = new Stations();
        x.write(0, 1, 2, 3);
        x.twin(Post.find(x, Post.LOCK, 0, 1));
        Post.grant(x, 0, 6);
        x.decide(0);
        x.twin(Post.find(x, Post.PREPARE, 0, 1));
        Post.prepare(x, 0, 6);
        Post.prepared(x, 0, 6);
        Post.commit(x, 0, 6);
        Post.deliver(x, Post.LOCK, 0, 1);
        due.is("PREPARE it is locked", x.about(1, 4), 5);
        Post.deliver(x, Post.GRANT, 1, 0);
        due.is("GRANT without an open write", Sight.about(x, 0), "3 0 1 -1 -1 -1 1");
        Post.deliver(x, Post.PREPARE, 0, 1);
        due.is("PREPARE the same book", Sight.about(x, 1), "3 0 0 -1 5 -1 1");
        due.is("PREPARE no answer", Post.find(x, Post.PREPARED, 1, 0), -1);
    }

    private static void kind3Prepared() {
        Stations x = Post.inDoubt(7);
        x.twin(Post.find(x, Post.PREPARED, 1, 0));
        Post.deliver(x, Post.PREPARED, 1, 0);
        Post.deliver(x, Post.PREPARED, 1, 0);
        due.is("PREPARED twice is one", Sight.about(x, 0), "5 0 1 -1 5 5 1");
        Post.deliver(x, Post.PREPARED, 2, 0);
        due.is("PREPARED all: it commits", Sight.about(x, 0), "3 0 1 -1 -1 -1 1");
        due.is("PREPARED it stores", Sight.book(x, 0), " 1209#5");
        due.is("PREPARED the COMMITs, the lesser one first",
                Sight.letter(x, x.letters() - 2) + ", " + Sight.letter(x, x.letters() - 1),
                "4 from 0 to 1 for 5, 4 from 0 to 2 for 5");

        Stations y = Post.inDoubt(15);
        y.giveUp(0);
        Post.deliver(y, Post.PREPARED, 1, 0);
        due.is("PREPARED without an open write", Sight.about(y, 0), "5 0 1 -1 -1 -1 1");
        y.write(0, 0, 0, 0);
        Post.deliver(y, Post.PREPARED, 2, 0);
        due.is("PREPARED of another number, and it collects", Sight.about(y, 0),
                "5 0 2 -1 10 10 1");
        Post.deliver(y, Post.ABORT, 0, 2);
        Post.deliver(y, Post.ABORT, 0, 3);
        y.lose(Post.find(y, Post.LOCK, 0, 3));
        y.lose(Post.find(y, Post.LOCK, 0, 4));
        y.resend(0);
        y.lose(Post.find(y, Post.LOCK, 0, 2));
        Post.grant(y, 0, 12);
        y.decide(0);
        Post.deliver(y, Post.PREPARE, 0, 2);
        Post.deliver(y, Post.PREPARED, 2, 0);
        Post.deliver(y, Post.PREPARED, 3, 0);
        due.is("PREPARED of another number, and it prepares", Sight.about(y, 0),
                "5 0 2 -1 10 10 1");
    }

    private static void kind4Commit() {
        Stations x = Post.inDoubt(7);
        Post.prepared(x, 0, 6);
        x.twin(Post.find(x, Post.COMMIT, 0, 1));
        due.is("COMMIT before", Sight.about(x, 1), "5 0 0 5 -1 -1 1");
        Post.deliver(x, Post.COMMIT, 0, 1);
        due.is("COMMIT size, named one, not prepared", Sight.about(x, 1), "3 0 0 -1 -1 -1 1");
        due.is("COMMIT the book", Sight.book(x, 1), " 1209#5");
        String before = Sight.about(x, 1) + Sight.book(x, 1);
        Post.deliver(x, Post.COMMIT, 0, 1);
        due.is("COMMIT twice", Sight.about(x, 1) + Sight.book(x, 1), before);
        x.twin(Post.find(x, Post.COMMIT, 0, 2));
        Post.deliver(x, Post.COMMIT, 0, 2);
        x.write(1, 0, 0, 0);
        Post.grant(x, 1, 4);
        x.decide(1);
        Post.deliver(x, Post.PREPARE, 1, 2);
        Post.deliver(x, Post.COMMIT, 0, 2);
        due.is("COMMIT of another number", Sight.about(x, 2), "3 0 0 6 -1 -1 1");
    }

    private static void kind5Abort() {
        Stations x = Post.inDoubt(7);
        Post.deliver(x, Post.LOCK, 0, 3);
        x.giveUp(0);
        Post.deliver(x, Post.ABORT, 0, 1);
        due.is("ABORT not prepared any more", Sight.about(x, 1), "5 0 0 -1 -1 -1 1");
        due.is("ABORT nothing is stored", x.count(1), 0);
        Post.deliver(x, Post.ABORT, 0, 3);
        due.is("ABORT not locked any more", Sight.about(x, 3), "5 0 0 -1 -1 -1 1");
        x.write(4, 0, 0, 0);
        Post.deliver(x, Post.ABORT, 0, 4);
        due.is("ABORT of another number, an open write", Sight.about(x, 4), "5 0 1 -1 9 9 1");
        x.twin(Post.find(x, Post.ABORT, 0, 2));
        Post.deliver(x, Post.ABORT, 0, 2);
        Post.deliver(x, Post.LOCK, 4, 2);
        Post.deliver(x, Post.ABORT, 0, 2);
        due.is("ABORT of another number, a lock", Sight.about(x, 2), "5 0 0 -1 9 -1 1");
        due.is("ABORT is not answered", Post.find(x, Post.ABORT, 2, 0), -1);
    }

    private static void kind5AbortInDoubtOfAnother() {
        Stations x = new Stations();
        x.write(3, 0, 0, 0);
        x.giveUp(3);
        x.write(0, 0, 0, 0);
        Post.grant(x, 0, 6);
        x.decide(0);
        Post.prepare(x, 0, 6);
        Post.deliver(x, Post.ABORT, 3, 1);
        due.is("ABORT of another number, in doubt", x.about(1, 3), 5);
    }

    /** The answer to an ASK of one station at another: its kind, or NONE. */
    private static int answer(Stations x, int asker, int other) {
        Post.loseAll(x);
        x.ask(asker, other);
        x.deliver(0);
        if (x.letters() == 0) {
            return NONE;
        }
        due.is("ASK the answer", Sight.letters(x),
                x.letter(0, 0) + " from " + other + " to " + asker + " for " + x.about(asker, 3));
        return x.letter(0, 0);
    }

    private static void kind6Ask() {
        Stations x = Post.inDoubt(15);
        due.is("ASK the writer, it is open", answer(x, 1, 0), NONE);
        due.is("ASK another in doubt", answer(x, 1, 2), NONE);
        due.is("ASK one that knows nothing", answer(x, 1, 4), NONE);
        x.resend(0);
        Post.prepare(x, 0, 14);
        Post.prepared(x, 0, 14);
        Post.deliver(x, Post.COMMIT, 0, 3);
        due.is("ASK the writer, it committed", answer(x, 1, 0), Post.COMMIT);
        due.is("ASK another that has it", answer(x, 1, 3), Post.COMMIT);
        due.is("ASK one in doubt", answer(x, 1, 2), NONE);
        due.is("ASK one that has nothing", answer(x, 1, 4), NONE);
        due.is("ASK the COMMIT comes", answer(x, 2, 3), Post.COMMIT);
        x.deliver(0);
        due.is("ASK and does its work", Sight.about(x, 2), "4 0 0 -1 -1 -1 1");

        Stations y = Post.inDoubt(7);
        y.giveUp(0);
        due.is("ASK the writer, given up", answer(y, 1, 0), Post.ABORT);
        y.write(0, 0, 0, 0);
        due.is("ASK the writer, another one open", answer(y, 1, 0), Post.ABORT);
        y.stop(0);
        y.start(0);
        due.is("ASK the writer, after a stop", answer(y, 2, 0), Post.ABORT);
        y.deliver(0);
        due.is("ASK the ABORT does its work", Sight.about(y, 2), "5 0 0 -1 -1 -1 1");
    }

    /** Station 1 is in doubt of write 9, at place 0 of the book; others fill that place. */
    private static void kind6AskOneThatHasAsMany() {
        Stations x = new Stations();
        x.write(4, 0, 0, 0);
        Post.grant(x, 4, 14);
        x.decide(4);
        Post.deliver(x, Post.PREPARE, 4, 1);
        x.unlock(2);
        x.unlock(3);
        x.write(0, 1, 1, 1);
        Post.loseAll(x);
        x.resend(0);
        Post.grant(x, 0, 12);
        due.is("ASK one that has fewer", answer(x, 1, 2), NONE);
        due.is("ASK the others go on", x.decide(0), true);
        Post.prepare(x, 0, 12);
        Post.prepared(x, 0, 12);
        due.is("ASK one that has as many", answer(x, 1, 0), Post.ABORT);
        x.stop(1);
        x.start(1);
        due.is("ASK one in doubt itself", answer(x, 1, 3), NONE);
        due.is("ASK the writer, still open", answer(x, 1, 4), NONE);
    }

    /** Station 1 is in doubt at place 0 still, when another one has two entries, or sixteen. */
    private static void kind6AskOneThatHasMore() {
        Stations x = new Stations();
        x.write(4, 0, 0, 0);
        Post.grant(x, 4, 10);
        x.decide(4);
        Post.deliver(x, Post.PREPARE, 4, 1);
        x.unlock(3);
        Post.loseAll(x);
        Post.notice(x, 0, 13, 1, 1, 1);
        Post.notice(x, 0, 5, 1, 1, 1);
        due.is("ASK one that has more", answer(x, 1, 2), Post.ABORT);
        due.is("ASK one that has as many", answer(x, 1, 3), Post.ABORT);
        for (int entries = 2; entries < 16; entries++) {
            Post.notice(x, 0, 1, 1, 1, 1);
        }
        due.is("ASK one whose book is full", answer(x, 1, 0), Post.ABORT);
        x.deliver(0);
        due.is("ASK it is in doubt no more", Sight.about(x, 1), "5 0 0 -1 -1 -1 1");
    }

    /** "if its book has that number": wherever it stands there, and before all other reasons. */
    private static void kind6AskOneThatHasItBeforeOthers() {
        Stations x = new Stations();
        Post.notice(x, 3, 31, 0, 0, 0);
        x.write(0, 1, 2, 3);
        Post.grant(x, 0, 14);
        x.decide(0);
        Post.prepare(x, 0, 14);
        Post.prepared(x, 0, 14);
        Post.deliver(x, Post.COMMIT, 0, 2);
        Post.deliver(x, Post.COMMIT, 0, 3);
        Post.loseAll(x);
        due.is("ASK the last of two", answer(x, 1, 3), Post.COMMIT);
        Post.notice(x, 2, 13, 0, 0, 0);
        Post.notice(x, 3, 12, 0, 0, 0);
        due.is("ASK the second of four", answer(x, 1, 3), Post.COMMIT);
        due.is("ASK its own, the second of three", answer(x, 1, 0), Post.COMMIT);
        x.write(0, 0, 0, 0);
        due.is("ASK its own, with another open", answer(x, 1, 0), Post.COMMIT);
        x.stop(0);
        x.start(0);
        due.is("ASK its own, started again", answer(x, 1, 0), Post.COMMIT);
        x.deliver(0);
        due.is("ASK it stores what it was prepared for", Sight.about(x, 1), "4 0 0 -1 -1 -1 1");
        due.is("ASK and no more", Sight.book(x, 1), " 0#8 1209#5");
    }

    /** The ASK tells of the book that its sender was prepared for then, not of a later one. */
    private static void kind6AskIsAsSent() {
        Stations x = new Stations();
        x.write(4, 0, 0, 0);
        Post.grant(x, 4, 10);
        x.decide(4);
        Post.deliver(x, Post.PREPARE, 4, 1);
        x.unlock(3);
        x.ask(1, 2);
        x.write(0, 1, 1, 1);
        Post.carryThrough(x, 0, 12);
        x.giveUp(4);
        Post.deliver(x, Post.ABORT, 4, 1);
        Post.loseAllBut(x, Post.ASK);
        x.write(0, 2, 2, 2);
        Post.grant(x, 0, 6);
        x.decide(0);
        Post.prepare(x, 0, 2);
        due.is("ASK it is in doubt of another now", x.about(1, 3), 10);
        due.is("ASK one that has as many as the first", x.count(2), 1);
        Post.deliver(x, Post.ASK, 1, 2);
        due.is("ASK as sent", Sight.lastLetters(x, 1), "5 from 2 to 1 for 9");
        due.doesNothing("ASK its ABORT", x, Post.ABORT, 2, 1);
    }

    /** The ASK is answered though its sender knows by then; the answer does nothing there. */
    private static void kind6AskedForNothing() {
        Stations x = Post.inDoubt(7);
        x.ask(1, 0);
        x.ask(2, 0);
        Post.prepared(x, 0, 6);
        Post.commit(x, 0, 6);
        Post.deliver(x, Post.ASK, 1, 0);
        due.is("ASK of one that knows", Sight.lastLetters(x, 1), "4 from 0 to 1 for 5");
        due.doesNothing("ASK its COMMIT", x, Post.COMMIT, 0, 1);
        Stations y = Post.inDoubt(7);
        y.ask(1, 0);
        y.giveUp(0);
        Post.deliver(y, Post.ABORT, 0, 1);
        Post.deliver(y, Post.ASK, 1, 0);
        due.is("ASK of one that knows", Sight.lastLetters(y, 1), "5 from 0 to 1 for 5");
        due.doesNothing("ASK its ABORT", y, Post.ABORT, 0, 1);
    }

    /** The number tells whose write it is, not who sent the letter: each writer in turn. */
    private static void kind6AskEachWriter() {
        for (int writer = 0; writer < 5; writer++) {
            Stations x = new Stations();
            x.write(writer, 0, 0, 0);
            Post.grant(x, writer, 31);
            x.decide(writer);
            Post.prepare(x, writer, 31);
            x.giveUp(writer);
            for (int s = 0; s < 5; s++) {
                for (int other = 0; other < 5; other++) {
                    if (s != writer && s != other) {
                        due.is("ASK " + other + " of " + writer, answer(x.again(), s, other),
                                other == writer ? Post.ABORT : NONE);
                    }
                }
            }
        }
    }

    /** "If its lock is that number now": granted as often as it is asked for. */
    private static void kind0LockOnceMore() {
        Stations x = new Stations();
        x.write(1, 0, 0, 0);
        x.twin(0);
        Post.deliver(x, Post.LOCK, 1, 0);
        due.is("LOCK granted", Sight.lastLetters(x, 1), "1 from 0 to 1 for 6");
        x.lose(x.letters() - 1);
        Post.deliver(x, Post.LOCK, 1, 0);
        due.is("LOCK granted once more", Sight.lastLetters(x, 1), "1 from 0 to 1 for 6");
        due.is("LOCK the same", x.about(0, 4), 6);
    }

    public static void main(String[] args) {
        kind0Lock();
        kind1Grant();
        kind1GrantIsAsSent();
        kind1FirstGrantCounts();
        kind2Prepare();
        kind2PrepareNotShorter();
        kind2PrepareOfWhatIsStored();
        kind3Prepared();
        kind4Commit();
        kind5Abort();
        kind5AbortInDoubtOfAnother();
        kind6Ask();
        kind6AskOneThatHasAsMany();
        kind6AskOneThatHasMore();
        kind6AskOneThatHasItBeforeOthers();
        kind6AskIsAsSent();
        kind6AskedForNothing();
        kind6AskEachWriter();
        kind0LockOnceMore();
        due.end();
    }
}
