/** Promises 17 to 21: what can be asked about the stations and their books. */
public final class BooksTest {
    private static final Due due = new Due("BooksTest");

    private static void promise17Count() {
        Stations x = Post.written(2);
        due.is("17 both", x.count(0), 2);
        due.is("17 both", x.count(1), 2);
        due.is("17 the first", x.count(2), 1);
        due.is("17 none", x.count(3), 0);
        x.stop(0);
        due.is("17 of a stopped one", x.count(0), 2);
        due.is("17 full", Post.written(16).count(0), 16);
        for (int no : Wrong.stations()) {
            due.isThrown("17 count at " + no, Wrong.INDEX, x, it -> it.count(no));
        }
    }

    private static void promise18Entry() {
        Stations x = new Stations();
        Post.notice(x, 1, 31, 3, 99, 99);
        Post.notice(x, 2, 31, 0, 0, 0);
        Post.withdrawal(x, 0, 31, 0);
        due.is("18 the greatest", x.entry(4, 0, false), 39999);
        due.is("18 its number", x.entry(4, 0, true), 6);
        due.is("18 the least", x.entry(3, 1, false), 0);
        due.is("18 its number", x.entry(3, 1, true), 7);
        due.is("18 a withdrawal", x.entry(2, 2, false), -1);
        due.is("18 its number", x.entry(2, 2, true), 5);
        x.stop(2);
        due.is("18 of a stopped one", x.entry(2, 2, true), 5);
        for (int k : new int[] {-1, 3, 16, Integer.MIN_VALUE, Integer.MAX_VALUE}) {
            due.isThrown("18 no entry " + k, Wrong.ELEMENT, x,
                    it -> it.entry(0, k, false));
            due.isThrown("18 no number " + k, Wrong.ELEMENT, x,
                    it -> it.entry(0, k, true));
            for (int no : Wrong.stations()) {
                due.isThrown("18 entry at " + no, Wrong.INDEX, x, it -> it.entry(no, k, true));
            }
        }
        Stations empty = new Stations();
        due.isThrown("18 of an empty book", Wrong.ELEMENT, empty, it -> it.entry(4, 0, false));
        due.isThrown("18 of an empty book", Wrong.ELEMENT, empty, it -> it.entry(4, 0, true));
        Stations y = Post.written(16);
        due.isThrown("18 behind a full book", Wrong.ELEMENT, y, it -> it.entry(0, 16, false));
        due.isThrown("18 behind a full book", Wrong.ELEMENT, y, it -> it.entry(0, 16, true));
        due.isThrown("18 in another's book", Wrong.ELEMENT, y, it -> it.entry(1, 2, false));
        due.is("18 the last", y.entry(0, 15, false), 3 + 4 * 15 + 400 * 90);
        due.is("18 its number", y.entry(0, 15, true), 80);
    }

    private static void promise19About() {
        Stations x = new Stations();
        Post.notice(x, 4, 28, 0, 0, 0);
        x.write(4, 1, 1, 1);
        Post.grant(x, 4, 12);
        x.decide(4);
        Post.deliver(x, Post.PREPARE, 4, 2);
        x.stop(0);
        due.is("19 the writer", Sight.about(x, 4), "3 2 2 -1 14 14 1");
        due.is("19 in doubt", Sight.about(x, 2), "3 2 0 14 -1 -1 1");
        due.is("19 locked", Sight.about(x, 3), "3 2 0 -1 14 -1 1");
        due.is("19 stopped", Sight.about(x, 0), "5 0 0 -1 -1 -1 0");
        for (int what : new int[] {-1, 7, Integer.MIN_VALUE, Integer.MAX_VALUE}) {
            due.isThrown("19 what " + what, Wrong.ARGUMENT, x, it -> it.about(0, what));
            for (int no : Wrong.stations()) {
                due.isThrown("19 about " + no, Wrong.INDEX, x, it -> it.about(no, what));
            }
        }
    }

    private static void promise20AllowedOfNew() {
        Stations x = new Stations();
        for (int mask = 0; mask < 32; mask++) {
            due.is("20 three of five, " + mask, x.allowed(mask), Integer.bitCount(mask) >= 3);
        }
        for (int mask : new int[] {-1, 32, 63, Integer.MIN_VALUE, Integer.MAX_VALUE}) {
            due.isThrown("20 mask " + mask, Wrong.ARGUMENT, x, it -> it.allowed(mask));
        }
        for (int s = 0; s < 5; s++) {
            for (int t = s + 1; t < 5; t++) {
                x.cable(s, t, false);
            }
        }
        due.is("20 cables do not matter", x.allowed(7), true);
        x.stop(1);
        due.is("20 a stopped one", x.allowed(7), false);
        due.is("20 without it", x.allowed(13), true);
        x.start(1);
        x.write(2, 0, 0, 0);
        due.is("20 one that writes", x.allowed(31), false);
        due.is("20 without it", x.allowed(27), true);
    }

    private static void promise20AllowedLater() {
        Stations x = new Stations();
        Post.notice(x, 1, 30, 0, 0, 0);
        due.is("20 half with the named one", x.allowed(2 + 16), true);
        due.is("20 half without it", x.allowed(4 + 8), false);
        due.is("20 half without it, one more that is behind", x.allowed(1 + 4 + 8), false);
        due.is("20 three of four", x.allowed(4 + 8 + 16), true);
        due.is("20 the named one alone", x.allowed(2), false);
        due.is("20 those that are behind", x.allowed(1), false);
        Post.notice(x, 1, 6, 0, 0, 0);
        due.is("20 more old ones than new ones", x.allowed(1 + 4 + 8 + 16), false);
        due.is("20 the named one of two", x.allowed(2), true);
        due.is("20 and those behind", x.allowed(2 + 8 + 16), true);
        due.is("20 the other one of two", x.allowed(4), false);
        due.changesNothing("20", x, it -> it.allowed(31));
    }

    private static void promise20AllowedLockedOrInDoubt() {
        Stations x = new Stations();
        x.write(0, 0, 0, 0);
        Post.grant(x, 0, 14);
        x.giveUp(0);
        due.is("20 a lock", x.allowed(7), false);
        x.unlock(1);
        x.unlock(2);
        due.is("20 none", x.allowed(7), true);
        due.is("20 a lock of one more", x.allowed(15), false);
        Stations y = Post.inDoubt(31);
        y.giveUp(0);
        due.is("20 in doubt", y.allowed(31), false);
        for (int s = 1; s < 4; s++) {
            Post.deliver(y, Post.ABORT, 0, s);
        }
        due.is("20 one in doubt", y.allowed(31), false);
        due.is("20 without it", y.allowed(15), true);
        due.is("20 a full book does not matter", Post.written(16).allowed(1), true);
    }

    /** "all are up, without lock and not in doubt": one that is not, wherever it stands. */
    private static void promise20AllowedWithOneThatIsNot() {
        for (int s = 0; s < 5; s++) {
            Stations stopped = new Stations();
            stopped.stop(s);
            isAllowedWithout(stopped, 1 << s);
            Stations locked = new Stations();
            int writer = (s + 2) % 5;
            locked.write(writer, 0, 0, 0);
            isAllowedWithout(locked, 1 << writer);
            Post.deliver(locked, Post.LOCK, writer, s);
            isAllowedWithout(locked, 1 << writer | 1 << s);
            locked.giveUp(writer);
            isAllowedWithout(locked, 1 << s);
            Stations inDoubt = new Stations();
            inDoubt.write(writer, 0, 0, 0);
            Post.grant(inDoubt, writer, 31);
            inDoubt.decide(writer);
            Post.deliver(inDoubt, Post.PREPARE, writer, s);
            inDoubt.giveUp(writer);
            for (int t = 0; t < 5; t++) {
                if (t != s && t != writer) {
                    Post.deliver(inDoubt, Post.ABORT, writer, t);
                }
            }
            isAllowedWithout(inDoubt, 1 << s);
            Post.deliver(inDoubt, Post.ABORT, writer, s);
            isAllowedWithout(inDoubt, 0);
        }
    }

    /** Books are empty, so three of five are needed, and none of the busy ones among them. */
    private static void isAllowedWithout(Stations x, int busy) {
        for (int mask = 0; mask < 32; mask++) {
            due.is("20 " + mask + " without " + busy, x.allowed(mask),
                    (mask & busy) == 0 && Integer.bitCount(mask) >= 3);
        }
    }

    /** "False for none. IllegalArgumentException when mask is not 0 .. 31", in any state. */
    private static void promise20AllowedOfNone() {
        Stations x = Post.inDoubt(31);
        Post.fill(x, 40);
        Stations y = Post.written(16);
        for (Stations each : new Stations[] {x, y}) {
            due.is("20 none", each.allowed(0), false);
            due.changesNothing("20 none", each, it -> it.allowed(0));
            for (int s = 0; s < 5; s++) {
                each.stop(s);
            }
            due.is("20 none, all stopped", each.allowed(0), false);
            due.is("20 all, all stopped", each.allowed(31), false);
            for (int mask : Wrong.beside(32)) {
                due.isThrown("20 mask " + mask, Wrong.ARGUMENT, each, it -> it.allowed(mask));
            }
        }
    }

    /** Questions are no changes, in a state that has something of everything. */
    private static void questionsChangeNothing() {
        Stations x = Post.written(2);
        x.write(1, 1, 2, 3);
        Post.grant(x, 1, 5);
        x.decide(1);
        Post.deliver(x, Post.PREPARE, 1, 0);
        x.write(4, 0, 0, 0);
        Post.deliver(x, Post.LOCK, 4, 3);
        x.cable(0, 1, false);
        due.changesNothing("12", x, it -> it.letters());
        for (int s = 0; s < 5; s++) {
            int station = s;
            due.changesNothing("17", x, it -> it.count(station));
            due.changesNothing("21", x, it -> it.inForce(station, 0, 1));
            for (int what = 0; what <= 6; what++) {
                int asked = what;
                due.changesNothing("19", x, it -> it.about(station, asked));
            }
        }
        due.changesNothing("16", x, it -> it.letter(0, 3));
        due.changesNothing("18", x, it -> it.entry(0, 1, true));
        for (int mask = 0; mask < 32; mask++) {
            int asked = mask;
            due.changesNothing("20", x, it -> it.allowed(asked));
        }
    }

    private static void promise21InForce() {
        Stations x = new Stations();
        due.is("21 empty", x.inForce(0, 0, 0), 0);
        Post.notice(x, 0, 31, 2, 10, 20);
        Post.notice(x, 0, 31, 2, 20, 30);
        Post.notice(x, 0, 31, 3, 0, 99);
        Post.notice(x, 0, 31, 2, 30, 10);
        due.is("21 before", x.inForce(0, 2, 9), 0);
        due.is("21 from", x.inForce(0, 2, 10), 1);
        due.is("21 both", x.inForce(0, 2, 20), 2);
        due.is("21 to", x.inForce(0, 2, 30), 1);
        due.is("21 after", x.inForce(0, 2, 31), 0);
        due.is("21 another area", x.inForce(0, 3, 20), 1);
        due.is("21 first day", x.inForce(0, 3, 0), 1);
        due.is("21 last day", x.inForce(0, 3, 99), 1);
        int[] no = {-1, 100, Integer.MIN_VALUE, Integer.MAX_VALUE};
        for (int day : no) {
            due.is("21 day " + day, x.inForce(0, 3, day), 0);
        }
        for (int area : new int[] {0, 1, -1, 4, 6, -2, Integer.MIN_VALUE, Integer.MAX_VALUE}) {
            due.is("21 area " + area, x.inForce(0, area, 20), 0);
        }
        for (int station : Wrong.stations()) {
            due.isThrown("21 at " + station, Wrong.INDEX, x, it -> it.inForce(station, 9, -1));
        }
        Post.withdrawal(x, 1, 15, 0);
        due.is("21 withdrawn", x.inForce(0, 2, 20), 1);
        due.is("21 withdrawn", x.inForce(0, 2, 15), 0);
        due.is("21 not in the book of 4", x.inForce(4, 2, 20), 2);
        due.is("21 a withdrawal is no notice", x.inForce(0, 3, 0), 1);
        x.stop(0);
        due.is("21 of a stopped one", x.inForce(0, 2, 20), 1);
    }

    /** Two stations withdraw the same notice, as the second one did not know of the first. */
    private static void promise21WithdrawnTwice() {
        Stations x = new Stations();
        Post.notice(x, 0, 31, 1, 0, 50);
        Post.withdrawal(x, 0, 7, 0);
        due.is("21 still in force at 4", x.inForce(4, 1, 5), 1);
        Post.withdrawal(x, 4, 31, 0);
        due.is("21 the book", Sight.book(x, 4), " 20001#5 -1#10 -1#9");
        due.is("21 withdrawn twice", x.inForce(4, 1, 5), 0);
    }

    public static void main(String[] args) {
        promise17Count();
        promise18Entry();
        promise19About();
        promise20AllowedOfNew();
        promise20AllowedLater();
        promise20AllowedLockedOrInDoubt();
        promise20AllowedWithOneThatIsNot();
        promise20AllowedOfNone();
        promise21InForce();
        promise21WithdrawnTwice();
        questionsChangeNothing();
        due.end();
    }
}
