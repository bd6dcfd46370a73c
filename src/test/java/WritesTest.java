/**
 * Promises 1 to 9: a new object, its cables, and what a station is told to do. What is refused
 * there: RefusalsTest.
 */
public final class WritesTest {
    private static final int NONE = NoticeStations.NONE;

    private static final Due due = new Due("WritesTest");

    private static void promise1NewObject() {
        Stations x = new Stations();
        due.is("1 NONE", NoticeStations.NONE, -1);
        due.is("1 letters", x.letters(), 0);
        for (int s = 0; s < 5; s++) {
            due.is("1 book of " + s, x.count(s), 0);
            due.is("1 about " + s, Sight.about(x, s), "5 0 0 -1 -1 -1 1");
            for (int t = 0; t < 5; t++) {
                if (s != t) {
                    due.is("1 cable " + s + " " + t, x.cable(s, t, true), false);
                }
            }
        }
        Stations y = new Stations();
        Post.notice(y, 3, 31, 1, 2, 3);
        y.stop(4);
        due.is("1 another object", x.count(3) + x.letters(), 0);
        due.is("1 another object's station", x.about(4, 6), 1);
    }

    private static void promise2Cable() {
        Stations x = new Stations();
        due.is("2 torn", x.cable(1, 3, false), true);
        due.is("2 torn already", x.cable(1, 3, false), false);
        due.is("2 torn already, seen from there", x.cable(3, 1, false), false);
        due.is("2 others are there", x.cable(1, 2, true), false);
        due.is("2 there again", x.cable(3, 1, true), true);
        due.is("2 there already", x.cable(1, 3, true), false);
        due.changesNothing("2 there already", x, it -> it.cable(1, 3, true));
        Stations torn = x.again();
        torn.cable(0, 4, false);
        due.changesNothing("2 torn already", torn, it -> it.cable(4, 0, false));
        for (int no : Wrong.stations()) {
            due.isThrown("2 cable from " + no, Wrong.INDEX, x, it -> it.cable(no, 0, false));
            due.isThrown("2 cable to " + no, Wrong.INDEX, x, it -> it.cable(0, no, false));
            due.isThrown("2 cable in " + no, Wrong.INDEX, x, it -> it.cable(no, no, false));
        }
        for (int s = 0; s < 5; s++) {
            int station = s;
            due.isThrown("2 to itself", Wrong.INDEX, x, it -> it.cable(station, station, false));
            due.isThrown("2 to itself", Wrong.INDEX, x, it -> it.cable(station, station, true));
        }
        for (int s = 0; s < 5; s++) {
            for (int t = s + 1; t < 5; t++) {
                due.is("2 none was torn by a wrong call", x.cable(s, t, false), true);
            }
        }
    }

    private static void promise2Pieces() {
        Stations x = new Stations();
        x.write(0, 0, 0, 0);
        for (int s = 0; s < 5; s++) {
            for (int t = s + 1; t < 5; t++) {
                x.cable(s, t, false);
            }
        }
        due.isThrown("2 no cables", Wrong.STATE, x, it -> it.deliver(3));
        x.cable(0, 2, true);
        x.cable(2, 1, true);
        x.cable(1, 3, true);
        due.isThrown("2 not as far as 4", Wrong.STATE, x, it -> it.deliver(3));
        x.cable(3, 4, true);
        x.stop(2);
        x.stop(1);
        x.stop(3);
        due.is("2 over all the others, stopped ones too", x.deliver(3), 0);
        due.is("2 the GRANT goes back that way", x.deliver(3), 1);
        x.cable(2, 1, false);
        due.isThrown("2 torn in the middle", Wrong.STATE, x, it -> it.deliver(2));
        Stations y = new Stations();
        y.write(4, 0, 0, 0);
        for (int s = 0; s < 5; s++) {
            for (int t = s + 2; t < 5; t++) {
                y.cable(s, t, false);
            }
        }
        due.is("2 all the way down", y.deliver(0), 0);
        due.is("2 all the way up", y.deliver(3), 1);
    }

    private static void promise3Write() {
        Stations x = new Stations();
        due.is("3 number", x.write(2, 3, 99, 98), 7);
        due.is("3 letters", Sight.letters(x),
                "0 from 2 to 0 for 7, 0 from 2 to 1 for 7, "
                        + "0 from 2 to 3 for 7, 0 from 2 to 4 for 7");
        due.is("3 the writer", Sight.about(x, 2), "5 0 1 -1 7 7 1");
        due.is("3 the others", Sight.about(x, 1), "5 0 0 -1 -1 -1 1");
        due.is("3 nothing is in the book yet", x.count(2), 0);
        Post.finish(x, 2, 31);
        due.is("3 the entry", x.entry(2, 0, false), 3 + 4 * 99 + 400 * 98);
        due.is("3 its number", x.entry(2, 0, true), 7);
        due.is("3 the next number", x.write(2, 0, 0, 0), 12);
        due.is("3 of station 0", new Stations().write(0, 0, 0, 0), 5);
        due.is("3 of station 4", new Stations().write(4, 3, 0, 99), 9);
    }

    private static void promise4Withdraw() {
        Stations x = new Stations();
        due.isThrown("4 empty book", Wrong.ELEMENT, x, it -> it.withdraw(0, 0));
        Post.notice(x, 0, 31, 1, 5, 9);
        Post.notice(x, 1, 31, 1, 5, 9);
        due.is("4 number", x.withdraw(3, 1), 8);
        due.is("4 the writer", Sight.about(x, 3), "5 0 1 -1 8 8 1");
        due.is("4 letters", Sight.letters(x),
                "0 from 3 to 0 for 8, 0 from 3 to 1 for 8, "
                        + "0 from 3 to 2 for 8, 0 from 3 to 4 for 8");
        Post.finish(x, 3, 15);
        due.is("4 the entry", x.entry(0, 2, false), -2);
        due.is("4 its number", x.entry(0, 2, true), 8);
        int[] none = {-1, -2, -3, 3, 15, 16, Integer.MIN_VALUE, Integer.MAX_VALUE};
        for (int k : none) {
            due.isThrown("4 no place " + k, Wrong.ELEMENT, x, it -> it.withdraw(0, k));
        }
        due.isThrown("4 withdrawn already", Wrong.ELEMENT, x, it -> it.withdraw(0, 1));
        due.isThrown("4 a withdrawal", Wrong.ELEMENT, x, it -> it.withdraw(0, 2));
        due.is("4 another book knows of no withdrawal", x.withdraw(4, 1), 9);
        due.is("4 the first one", x.withdraw(0, 0), 10);
    }

    private static void promise5Decide() {
        Stations x = new Stations();
        x.write(2, 1, 10, 20);
        due.is("5 alone", x.decide(2), false);
        Post.grant(x, 2, 8);
        due.is("5 two of five", x.decide(2), false);
        due.changesNothing("5 two of five", x, it -> it.decide(2));
        Post.grant(x, 2, 16);
        Post.loseAll(x);
        due.is("5 three of five", x.decide(2), true);
        due.is("5 letters", Sight.letters(x), "2 from 2 to 3 for 7, 2 from 2 to 4 for 7");
        due.is("5 it is not in doubt", Sight.about(x, 2), "5 0 1 -1 7 7 1");
        due.isThrown("5 it prepares already", Wrong.STATE, x, it -> it.decide(2));
        Post.prepare(x, 2, 24);
        due.is("5 those are in doubt", Sight.about(x, 3), "5 0 0 7 -1 -1 1");
        Post.prepared(x, 2, 24);
        due.is("5 the new size, named one", Sight.about(x, 2), "3 2 1 -1 -1 -1 1");
        due.is("5 commits", Sight.letters(x), "4 from 2 to 3 for 7, 4 from 2 to 4 for 7");
        due.isThrown("5 no open write", Wrong.STATE, x, it -> it.decide(2));
        due.isThrown("5 never one", Wrong.STATE, x, it -> it.decide(0));
        for (int no : Wrong.stations()) {
            due.isThrown("5 decide at " + no, Wrong.INDEX, x, it -> it.decide(no));
        }
        Stations y = new Stations();
        y.write(4, 0, 0, 0);
        Post.grant(y, 4, 7);
        Post.loseAll(y);
        y.decide(4);
        due.is("5 the lesser ones first", Sight.letters(y),
                "2 from 4 to 0 for 9, 2 from 4 to 1 for 9, 2 from 4 to 2 for 9");
    }

    /** The size is 4 with 0 named, then 2, then 1. */
    private static void promise5HalfWithTheNamedOne() {
        Stations x = new Stations();
        Post.notice(x, 1, 15, 0, 0, 0);
        due.is("5 size four", x.about(1, 0), 4);
        x.write(3, 0, 0, 0);
        Post.grant(x, 3, 4);
        due.is("5 half without the named one", x.decide(3), false);
        Post.grant(x, 3, 16);
        due.is("5 one that holds less does not help", x.decide(3), false);
        x.giveUp(3);
        Post.deliver(x, Post.ABORT, 3, 2);
        Post.deliver(x, Post.ABORT, 3, 4);
        Post.loseAll(x);
        x.write(3, 1, 1, 1);
        Post.grant(x, 3, 1);
        due.is("5 half with the named one", x.decide(3), true);
        Post.prepare(x, 3, 1);
        Post.prepared(x, 3, 1);
        Post.commit(x, 3, 1);
        Post.loseAll(x);
        due.is("5 size two, 0 named", Sight.about(x, 3), "2 0 2 -1 -1 -1 1");
        x.write(3, 2, 2, 2);
        due.is("5 one of two, not named", x.decide(3), false);
        x.giveUp(3);
        Post.loseAll(x);
        x.write(0, 2, 2, 2);
        due.is("5 one of two, named: committed at once", x.decide(0), true);
        due.is("5 no PREPARE and no COMMIT", x.letters(), 4);
        due.is("5 size one", Sight.about(x, 0), "1 0 1 -1 -1 -1 1");
        due.is("5 it has the entry", Sight.book(x, 0), " 0#6 405#13 810#5");
    }

    /** A writer that is behind takes the holders' book, and the group counts it. */
    private static void promise5WriterBehind() {
        Stations x = new Stations();
        Post.notice(x, 0, 7, 0, 1, 2);
        Post.notice(x, 1, 7, 1, 3, 4);
        due.is("5 behind", x.count(4), 0);
        x.write(4, 2, 5, 6);
        Post.grant(x, 4, 8);
        due.is("5 two that are behind", x.decide(4), false);
        Post.grant(x, 4, 2);
        due.is("5 one of three holders", x.decide(4), false);
        Post.grant(x, 4, 4);
        due.is("5 two of three holders", x.decide(4), true);
        Post.prepare(x, 4, 14);
        Post.prepared(x, 4, 14);
        due.is("5 the whole book", Sight.book(x, 4), " 804#5 1613#6 2422#9");
        due.is("5 all that granted", Sight.about(x, 4), "4 1 1 -1 -1 -1 1");
        Post.commit(x, 4, 14);
        due.is("5 3 was behind too", Sight.book(x, 3), " 804#5 1613#6 2422#9");
    }

    private static void promise6GiveUp() {
        Stations x = new Stations();
        x.write(1, 0, 0, 0);
        Post.loseAll(x);
        x.giveUp(1);
        due.is("6 letters", Sight.letters(x),
                "5 from 1 to 0 for 6, 5 from 1 to 2 for 6, "
                        + "5 from 1 to 3 for 6, 5 from 1 to 4 for 6");
        due.is("6 the station", Sight.about(x, 1), "5 0 1 -1 -1 -1 1");
        due.isThrown("6 not again", Wrong.STATE, x, it -> it.giveUp(1));
        due.isThrown("6 none", Wrong.STATE, x, it -> it.giveUp(0));
        for (int no : Wrong.stations()) {
            due.isThrown("6 giveUp at " + no, Wrong.INDEX, x, it -> it.giveUp(no));
        }
        Stations y = Post.inDoubt(7);
        Post.loseAll(y);
        y.giveUp(0);
        due.is("6 to each, when it prepares too", Sight.letters(y),
                "5 from 0 to 1 for 5, 5 from 0 to 2 for 5, "
                        + "5 from 0 to 3 for 5, 5 from 0 to 4 for 5");
        due.is("6 the station", Sight.about(y, 0), "5 0 1 -1 -1 -1 1");
        due.is("6 nothing is stored", y.count(0), 0);
        Stations z = new Stations();
        z.write(3, 0, 0, 0);
        Post.fill(z, 37);
        due.isThrown("6 41 letters", Wrong.TOO_MUCH, z, it -> it.giveUp(3));
        due.isThrown("6 41 letters, none open", Wrong.STATE, z, it -> it.giveUp(2));
        z.lose(0);
        z.giveUp(3);
        due.is("6 40 letters", z.letters(), 40);
        Stations w = new Stations();
        w.write(3, 0, 0, 0);
        w.stop(3);
        due.isThrown("6 stopped", Wrong.STATE, w, it -> it.giveUp(3));
    }

    private static void promise7Resend() {
        Stations x = new Stations();
        x.write(2, 0, 0, 0);
        Post.grant(x, 2, 8);
        Post.loseAll(x);
        due.is("7 three did not grant", x.resend(2), 3);
        due.is("7 LOCKs", Sight.letters(x),
                "0 from 2 to 0 for 7, 0 from 2 to 1 for 7, 0 from 2 to 4 for 7");
        Post.grant(x, 2, 17);
        Post.loseAll(x);
        x.decide(2);
        Post.prepare(x, 2, 1);
        Post.prepared(x, 2, 1);
        Post.loseAll(x);
        due.is("7 two are not prepared", x.resend(2), 2);
        due.is("7 PREPAREs", Sight.letters(x), "2 from 2 to 3 for 7, 2 from 2 to 4 for 7");
        Post.prepare(x, 2, 24);
        due.is("7 they have all that is needed", x.about(4, 3), 7);
        Post.prepared(x, 2, 24);
        due.is("7 committed", x.count(2), 1);
        due.isThrown("7 no open write", Wrong.STATE, x, it -> it.resend(2));
        for (int no : Wrong.stations()) {
            due.isThrown("7 resend at " + no, Wrong.INDEX, x, it -> it.resend(no));
        }
        Stations y = new Stations();
        y.write(0, 0, 0, 0);
        Post.grant(y, 0, 30);
        due.is("7 all granted", y.resend(0), 0);
        Stations z = new Stations();
        z.write(0, 0, 0, 0);
        Post.grant(z, 0, 6);
        Post.fill(z, 39);
        due.isThrown("7 41 letters", Wrong.TOO_MUCH, z, it -> it.resend(0));
        due.isThrown("7 41 letters, none open", Wrong.STATE, z, it -> it.resend(1));
        z.lose(0);
        due.is("7 40 letters", z.resend(0), 2);
        z.lose(Post.find(z, Post.LOCK, 0, 3));
        Post.grant(z, 0, 24);
        Post.fill(z, 40);
        due.is("7 none to send", z.resend(0), 0);
    }

    private static void promise8Unlock() {
        Stations x = new Stations();
        x.write(0, 0, 0, 0);
        Post.deliver(x, Post.LOCK, 0, 3);
        due.is("8 locked", x.about(3, 4), 5);
        x.unlock(3);
        due.is("8 no lock", Sight.about(x, 3), "5 0 0 -1 -1 -1 1");
        due.isThrown("8 none any more", Wrong.STATE, x, it -> it.unlock(3));
        due.isThrown("8 never one", Wrong.STATE, x, it -> it.unlock(4));
        due.isThrown("8 an open write", Wrong.STATE, x, it -> it.unlock(0));
        for (int no : Wrong.stations()) {
            due.isThrown("8 unlock at " + no, Wrong.INDEX, x, it -> it.unlock(no));
        }
        Post.deliver(x, Post.LOCK, 0, 1);
        x.stop(1);
        due.isThrown("8 stopped, so it has none", Wrong.STATE, x, it -> it.unlock(1));
        due.is("8 what lies there still does", x.letters(), 4);
    }

    private static void promise9Ask() {
        Stations x = Post.inDoubt(7);
        Post.loseAll(x);
        x.ask(2, 4);
        x.ask(1, 0);
        due.is("9 letters", Sight.letters(x), "6 from 2 to 4 for 5, 6 from 1 to 0 for 5");
        due.is("9 still in doubt", x.about(2, 3), 5);
        due.isThrown("9 not in doubt", Wrong.STATE, x, it -> it.ask(3, 0));
        due.isThrown("9 the writer is not", Wrong.STATE, x, it -> it.ask(0, 1));
        due.isThrown("9 itself", Wrong.INDEX, x, it -> it.ask(2, 2));
        due.isThrown("9 itself, not in doubt", Wrong.INDEX, x, it -> it.ask(3, 3));
        for (int no : Wrong.stations()) {
            due.isThrown("9 ask by " + no, Wrong.INDEX, x, it -> it.ask(no, 0));
            due.isThrown("9 ask at " + no, Wrong.INDEX, x, it -> it.ask(2, no));
        }
        x.stop(2);
        due.isThrown("9 stopped", Wrong.STATE, x, it -> it.ask(2, 0));
        x.stop(0);
        Post.fill(x, 39);
        x.ask(1, 0);
        due.is("9 40 letters, one to a stopped station", x.letters(), 40);
        due.isThrown("9 41 letters", Wrong.TOO_MUCH, x, it -> it.ask(1, 0));
        due.isThrown("9 41 letters, stopped", Wrong.STATE, x, it -> it.ask(2, 0));
        x.lose(0);
        x.start(2);
        x.ask(2, 0);
        due.is("9 in doubt after a stop", Sight.letter(x, 39), "6 from 2 to 0 for 5");
        due.is("9 NONE", x.about(0, 3), NONE);
    }

    public static void main(String[] args) {
        promise1NewObject();
        promise2Cable();
        promise2Pieces();
        promise3Write();
        promise4Withdraw();
        promise5Decide();
        promise5HalfWithTheNamedOne();
        promise5WriterBehind();
        promise6GiveUp();
        promise7Resend();
        promise8Unlock();
        promise9Ask();
        due.end();
    }
}
