/**
 * Promise 13, TO DELIVER: each kind of letter in every state in which it does nothing. It is
 * taken out of the row then, and all else is as if it had been lost.
 */
public final class IdleLettersTest {
    private static final Due due = new Due("IdleLettersTest");

    /** "if the receiver has no lock": nothing when it has another one. */
    private static void lockOfALockedOne() {
        Stations x = new Stations();
        x.write(0, 0, 0, 0);
        x.write(1, 0, 0, 0);
        Post.deliver(x, Post.LOCK, 0, 2);
        due.doesNothing("LOCK, another lock", x, Post.LOCK, 1, 2);
        x.unlock(2);
        Post.deliver(x, Post.LOCK, 1, 2);
        due.is("LOCK, none any more", x.about(2, 4), 6);
    }

    /** "and no open write of its own": nothing, be it collecting or preparing. */
    private static void lockOfAWriter() {
        Stations x = new Stations();
        x.write(0, 0, 0, 0);
        x.write(1, 0, 0, 0);
        due.doesNothing("LOCK, it collects", x, Post.LOCK, 0, 1);
        due.doesNothing("LOCK, it collects", x, Post.LOCK, 1, 0);
        Post.grant(x, 0, 12);
        x.decide(0);
        due.doesNothing("LOCK, it prepares", x, Post.LOCK, 1, 0);
    }

    /** "and is not in doubt": nothing, be the number another or the very same. */
    private static void lockInDoubt() {
        Stations x = new Stations();
        x.write(0, 0, 0, 0);
        x.twin(0);
        Post.grant(x, 0, 6);
        x.decide(0);
        Post.prepare(x, 0, 6);
        x.write(3, 0, 0, 0);
        due.doesNothing("LOCK, in doubt of another", x, Post.LOCK, 3, 1);
        due.doesNothing("LOCK, in doubt of it", x, Post.LOCK, 0, 1);
        x.stop(1);
        x.start(1);
        due.doesNothing("LOCK, in doubt, started again", x, Post.LOCK, 0, 1);
    }

    /** "if its open write has that number": nothing without one, or with another. */
    private static void grantWithoutThatWrite() {
        Stations x = new Stations();
        x.write(0, 0, 0, 0);
        Post.deliver(x, Post.LOCK, 0, 1);
        Post.deliver(x, Post.LOCK, 0, 2);
        Stations stopped = x.again();
        stopped.stop(0);
        stopped.start(0);
        due.doesNothing("GRANT, started again", stopped, Post.GRANT, 1, 0);
        stopped.write(0, 0, 0, 0);
        due.doesNothing("GRANT, the write after it", stopped, Post.GRANT, 1, 0);
        x.giveUp(0);
        due.doesNothing("GRANT, given up", x, Post.GRANT, 1, 0);
        x.write(0, 0, 0, 0);
        due.doesNothing("GRANT, the write after it", x, Post.GRANT, 2, 0);
        x.giveUp(0);
        x.write(3, 0, 0, 0);
        Post.deliver(x, Post.LOCK, 3, 0);
        due.doesNothing("GRANT, locked by another", x, Post.GRANT, 1, 0);
    }

    /** "and collects": nothing when it prepares, or has committed. */
    private static void grantTooLate() {
        Stations x = new Stations();
        x.write(0, 0, 0, 0);
        Post.grant(x, 0, 6);
        Post.deliver(x, Post.LOCK, 0, 3);
        x.decide(0);
        due.doesNothing("GRANT, it prepares", x, Post.GRANT, 3, 0);
        Post.prepare(x, 0, 6);
        Post.deliver(x, Post.PREPARED, 1, 0);
        due.doesNothing("GRANT, it prepares still", x, Post.GRANT, 3, 0);
        Post.deliver(x, Post.PREPARED, 2, 0);
        due.doesNothing("GRANT, it has committed", x, Post.GRANT, 3, 0);
    }

    /** "and the sender did not grant yet": nothing, even if the second tells of more. */
    private static void grantTwice() {
        Stations x = new Stations();
        x.write(0, 0, 0, 0);
        Post.deliver(x, Post.LOCK, 0, 1);
        x.twin(Post.find(x, Post.GRANT, 1, 0));
        Post.deliver(x, Post.GRANT, 1, 0);
        due.doesNothing("GRANT, the same once more", x, Post.GRANT, 1, 0);
        Stations y = Post.overtaken();
        Post.deliver(y, Post.LOCK, 4, 1);
        due.doesNothing("GRANT, with more entries", y, Post.GRANT, 1, 4);
    }

    /** "if its lock is that number": nothing with none, or with another. */
    private static void prepareWithoutThatLock() {
        Stations x = new Stations();
        x.write(0, 0, 0, 0);
        Post.grant(x, 0, 14);
        x.decide(0);
        Stations unlocked = x.again();
        unlocked.unlock(1);
        due.doesNothing("PREPARE, unlocked", unlocked, Post.PREPARE, 0, 1);
        Stations stopped = x.again();
        stopped.stop(1);
        stopped.start(1);
        due.doesNothing("PREPARE, started again", stopped, Post.PREPARE, 0, 1);
        unlocked.write(4, 0, 0, 0);
        Post.deliver(unlocked, Post.LOCK, 4, 1);
        due.doesNothing("PREPARE, locked by another", unlocked, Post.PREPARE, 0, 1);
        stopped.write(1, 0, 0, 0);
        due.doesNothing("PREPARE, it writes itself", stopped, Post.PREPARE, 0, 1);
    }

    /** In doubt of another number: "if it is prepared for that number" is not so. */
    private static void prepareInDoubtOfAnother() {
        Stations x = new Stations();
        x.write(4, 0, 0, 0);
        Post.grant(x, 4, 6);
        x.decide(4);
        x.unlock(1);
        x.write(0, 0, 0, 0);
        Post.grant(x, 0, 10);
        x.decide(0);
        Post.deliver(x, Post.PREPARE, 0, 1);
        due.is("PREPARE, in doubt of 5", x.about(1, 3), 5);
        due.doesNothing("PREPARE, in doubt of another", x, Post.PREPARE, 4, 1);
    }

    /** "and shorter": nothing when its book is as long as the letter's, or longer. */
    private static void prepareOfABookNotShorter() {
        Stations x = Post.overtaken();
        x.decide(4);
        Stations longer = x.again();
        Post.deliver(x, Post.LOCK, 4, 1);
        due.is("PREPARE, one entry", x.count(1), 1);
        due.doesNothing("PREPARE, as long", x, Post.PREPARE, 4, 1);
        longer.write(0, 0, 0, 0);
        longer.lose(Post.find(longer, Post.LOCK, 0, 3));
        longer.lose(Post.find(longer, Post.LOCK, 0, 4));
        Post.carryThrough(longer, 0, 2);
        Post.deliver(longer, Post.LOCK, 4, 1);
        due.is("PREPARE, two entries", longer.count(1), 2);
        due.is("PREPARE, with the lock", longer.about(1, 4), 9);
        due.doesNothing("PREPARE, longer", longer, Post.PREPARE, 4, 1);
    }

    /** Once more when all is over: it is neither locked nor prepared. */
    private static void prepareAfterAll() {
        Stations x = new Stations();
        x.write(0, 0, 0, 0);
        x.twin(0);
        Post.grant(x, 0, 6);
        x.decide(0);
        x.twin(Post.find(x, Post.PREPARE, 0, 1));
        Post.prepare(x, 0, 6);
        Stations aborted = x.again();
        Post.prepared(x, 0, 6);
        Post.commit(x, 0, 6);
        due.doesNothing("PREPARE, committed", x, Post.PREPARE, 0, 1);
        Post.deliver(x, Post.LOCK, 0, 1);
        due.is("PREPARE, locked once more", x.about(1, 4), 5);
        due.doesNothing("PREPARE, committed and locked", x, Post.PREPARE, 0, 1);
        aborted.giveUp(0);
        Post.deliver(aborted, Post.ABORT, 0, 1);
        due.doesNothing("PREPARE, aborted", aborted, Post.PREPARE, 0, 1);
    }

    /** "if its open write has that number and prepares": nothing otherwise. */
    private static void preparedWithoutThatWrite() {
        Stations x = Post.inDoubt(15);
        Stations stopped = x.again();
        stopped.stop(0);
        stopped.start(0);
        due.doesNothing("PREPARED, started again", stopped, Post.PREPARED, 1, 0);
        x.giveUp(0);
        due.doesNothing("PREPARED, given up", x, Post.PREPARED, 1, 0);
        x.write(0, 0, 0, 0);
        due.doesNothing("PREPARED, the next one collects", x, Post.PREPARED, 1, 0);
        Post.deliver(x, Post.ABORT, 0, 1);
        Post.deliver(x, Post.ABORT, 0, 2);
        x.lose(Post.find(x, Post.LOCK, 0, 4));
        Post.grant(x, 0, 6);
        x.decide(0);
        due.doesNothing("PREPARED, the next one prepares", x, Post.PREPARED, 1, 0);
    }

    /** One of the group that is prepared already: nothing, though only one other is missing. */
    private static void preparedTwice() {
        Stations x = Post.inDoubt(7);
        x.twin(Post.find(x, Post.PREPARED, 1, 0));
        Stations committed = x.again();
        Post.deliver(x, Post.PREPARED, 1, 0);
        due.doesNothing("PREPARED, once more", x, Post.PREPARED, 1, 0);
        Post.prepared(committed, 0, 6);
        due.doesNothing("PREPARED, committed", committed, Post.PREPARED, 1, 0);
    }

    /** "if it is prepared for that number": nothing when it is not, or for another. */
    private static void commitNotPreparedFor() {
        Stations x = new Stations();
        x.write(0, 1, 2, 3);
        x.twin(0);
        Post.grant(x, 0, 6);
        x.decide(0);
        Post.prepare(x, 0, 6);
        Post.prepared(x, 0, 6);
        x.twin(Post.find(x, Post.COMMIT, 0, 1));
        Post.deliver(x, Post.COMMIT, 0, 1);
        due.doesNothing("COMMIT, once more", x, Post.COMMIT, 0, 1);
        Stations locked = x.again();
        Post.deliver(locked, Post.LOCK, 0, 1);
        due.is("COMMIT, locked by it", locked.about(1, 4), 5);
        due.doesNothing("COMMIT, locked by it", locked, Post.COMMIT, 0, 1);
        Post.deliver(x, Post.COMMIT, 0, 2);
        x.write(2, 0, 0, 0);
        due.doesNothing("COMMIT, while others write", x, Post.COMMIT, 0, 1);
        Post.grant(x, 2, 2);
        due.doesNothing("COMMIT, locked by another", x, Post.COMMIT, 0, 1);
        x.decide(2);
        Post.deliver(x, Post.PREPARE, 2, 1);
        due.is("COMMIT, in doubt of 7", x.about(1, 3), 7);
        due.doesNothing("COMMIT, in doubt of another", x, Post.COMMIT, 0, 1);
    }

    /** Neither prepared for that number nor locked by it: nothing. */
    private static void abortOfAnother() {
        Stations x = new Stations();
        x.write(3, 0, 0, 0);
        x.giveUp(3);
        Post.loseAllBut(x, Post.ABORT);
        due.doesNothing("ABORT, free", x, Post.ABORT, 3, 1);
        Stations stopped = x.again();
        stopped.stop(1);
        stopped.start(1);
        due.doesNothing("ABORT, started again", stopped, Post.ABORT, 3, 1);
        x.write(0, 0, 0, 0);
        due.doesNothing("ABORT, it collects", x, Post.ABORT, 3, 0);
        Post.grant(x, 0, 6);
        due.doesNothing("ABORT, locked by another", x, Post.ABORT, 3, 1);
        x.decide(0);
        due.doesNothing("ABORT, it prepares", x, Post.ABORT, 3, 0);
        Post.prepare(x, 0, 6);
        due.doesNothing("ABORT, in doubt of another", x, Post.ABORT, 3, 1);
        Post.prepared(x, 0, 6);
        due.doesNothing("ABORT, it has committed", x, Post.ABORT, 3, 0);
    }

    /** An ABORT of a write before: the writer's next one has another number. */
    private static void abortOfTheWriteBefore() {
        Stations x = Post.inDoubt(7);
        x.giveUp(0);
        x.twin(Post.find(x, Post.ABORT, 0, 1));
        Post.deliver(x, Post.ABORT, 0, 1);
        Post.deliver(x, Post.ABORT, 0, 2);
        x.write(0, 0, 0, 0);
        x.lose(Post.find(x, Post.LOCK, 0, 3));
        x.lose(Post.find(x, Post.LOCK, 0, 4));
        Post.grant(x, 0, 6);
        due.is("ABORT, locked by the next", x.about(1, 4), 10);
        due.doesNothing("ABORT, locked by the next", x, Post.ABORT, 0, 1);
        x.decide(0);
        Post.prepare(x, 0, 6);
        due.doesNothing("ABORT, in doubt of the next", x, Post.ABORT, 0, 1);
    }

    /** Its book has not that number, it is not its own or is open, and it has fewer entries. */
    private static void askOfOneThatDoesNotKnow() {
        Stations x = Post.inDoubt(7);
        for (int other : new int[] {0, 2, 3, 4}) {
            x.ask(1, other);
        }
        due.doesNothing("ASK, its open write", x, Post.ASK, 1, 0);
        due.doesNothing("ASK, in doubt too", x, Post.ASK, 1, 2);
        due.doesNothing("ASK, free", x, Post.ASK, 1, 3);
        Post.deliver(x, Post.LOCK, 0, 3);
        due.doesNothing("ASK, locked by it", x, Post.ASK, 1, 3);
        x.write(4, 0, 0, 0);
        due.doesNothing("ASK, with a write of its own", x, Post.ASK, 1, 4);
    }

    /** "at least so many entries": one fewer is too few, whatever the books have. */
    private static void askOfOneWithOneFewer() {
        Stations x = new Stations();
        Post.notice(x, 0, 31, 0, 0, 0);
        Post.notice(x, 0, 31, 0, 0, 0);
        x.write(0, 0, 0, 0);
        Post.grant(x, 0, 15);
        x.decide(0);
        Post.prepare(x, 0, 15);
        x.ask(1, 4);
        due.is("ASK, two of three entries", x.count(4), 2);
        due.doesNothing("ASK, one entry fewer", x, Post.ASK, 1, 4);
    }

    /** The sender's ABORT came before: the ASK tells of the book all the same. */
    private static void askOfOneThatIsInDoubtNoMore() {
        Stations x = Post.inDoubt(7);
        x.ask(1, 3);
        x.giveUp(0);
        Post.deliver(x, Post.ABORT, 0, 1);
        due.doesNothing("ASK, in doubt no more", x, Post.ASK, 1, 3);
    }

    public static void main(String[] args) {
        lockOfALockedOne();
        lockOfAWriter();
        lockInDoubt();
        grantWithoutThatWrite();
        grantTooLate();
        grantTwice();
        prepareWithoutThatLock();
        prepareInDoubtOfAnother();
        prepareOfABookNotShorter();
        prepareAfterAll();
        preparedWithoutThatWrite();
        preparedTwice();
        commitNotPreparedFor();
        abortOfAnother();
        abortOfTheWriteBefore();
        askOfOneThatDoesNotKnow();
        askOfOneWithOneFewer();
        askOfOneThatIsInDoubtNoMore();
        due.end();
    }
}
