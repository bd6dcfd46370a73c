/**
 * Promises 2 to 9, the calls that a station is told: what is refused and with what, the last that
 * is taken beside the first that is refused, and which of several reasons is told. Of every call
 * that throws it is tested that it changes nothing.
 */
public final class RefusalsTest {
    private static final Due due = new Due("RefusalsTest");

    private interface Call {
        void make(Stations x, int station);
    }

    /** Letters up to the bound, stations 1 and 2 in doubt, 3 stopped, 0 preparing. */
    private static Stations crowded() {
        Stations x = Post.inDoubt(7);
        x.stop(3);
        Post.fill(x, 40);
        return x;
    }

    /** "IndexOutOfBoundsException: there is no such station": before all else. */
    private static void noSuchStation() {
        Call[] calls = {
            (x, no) -> x.cable(no, 0, false),
            (x, no) -> x.cable(0, no, true),
            (x, no) -> x.cable(no, no, false),
            (x, no) -> x.write(no, 0, 0, 0),
            (x, no) -> x.write(no, 4, 100, -1),
            (x, no) -> x.withdraw(no, 0),
            (x, no) -> x.withdraw(no, -1),
            (x, no) -> x.decide(no),
            (x, no) -> x.giveUp(no),
            (x, no) -> x.resend(no),
            (x, no) -> x.unlock(no),
            (x, no) -> x.ask(no, 0),
            (x, no) -> x.ask(1, no),
            (x, no) -> x.ask(3, no),
            (x, no) -> x.ask(no, no),
            (x, no) -> x.stop(no),
            (x, no) -> x.start(no),
            (x, no) -> x.count(no),
            (x, no) -> x.entry(no, 0, false),
            (x, no) -> x.entry(no, -1, true),
            (x, no) -> x.about(no, 0),
            (x, no) -> x.about(no, 7),
            (x, no) -> x.inForce(no, 0, 0),
            (x, no) -> x.inForce(no, 4, 100)};
        Stations[] objects = {new Stations(), crowded()};
        for (Stations x : objects) {
            for (int c = 0; c < calls.length; c++) {
                Call call = calls[c];
                for (int no : Wrong.stations()) {
                    due.isThrown("call " + c + " of station " + no, Wrong.INDEX, x,
                            it -> call.make(it, no));
                }
            }
        }
    }

    /** Stations are 0 .. 4: each of them, the first and the last too, is taken by every call. */
    private static void everyStation() {
        for (int s = 0; s < 5; s++) {
            Stations x = new Stations();
            int next = (s + 1) % 5;
            due.is("cable of " + s, x.cable(s, next, false), true);
            due.is("cable to " + s, x.cable(next, s, true), true);
            due.is("write at " + s, x.write(s, 1, 2, 3), 5 + s);
            due.is("resend at " + s, x.resend(s), 4);
            due.is("decide at " + s, x.decide(s), false);
            Post.finish(x, s, 31);
            due.is("count at " + s, x.count(s), 1);
            due.is("entry at " + s, x.entry(s, 0, false), 1209);
            due.is("about " + s, x.about(s, 2), 1);
            due.is("inForce at " + s, x.inForce(s, 1, 3), 1);
            due.is("withdraw at " + s, x.withdraw(s, 0), 10 + s);
            x.giveUp(s);
            due.is("giveUp at " + s, x.about(s, 5), NoticeStations.NONE);
            x.write(next, 0, 0, 0);
            Post.deliver(x, Post.LOCK, next, s);
            x.unlock(s);
            due.is("unlock at " + s, x.about(s, 4), NoticeStations.NONE);
            due.is("stop " + s, x.stop(s), true);
            due.is("start " + s, x.start(s), true);
        }
    }

    /** "A station in doubt sends an ASK to another one": each to each. */
    private static void everyAsk() {
        for (int writer = 0; writer < 5; writer++) {
            Stations x = new Stations();
            x.write(writer, 0, 0, 0);
            Post.grant(x, writer, 31);
            x.decide(writer);
            Post.prepare(x, writer, 31);
            for (int s = 0; s < 5; s++) {
                for (int other = 0; other < 5; other++) {
                    int from = s;
                    int to = other;
                    if (s == other) {
                        due.isThrown("9 itself", Wrong.INDEX, x, it -> it.ask(from, to));
                    } else if (s == writer) {
                        due.isThrown("9 the writer", Wrong.STATE, x, it -> it.ask(from, to));
                    } else {
                        x.ask(s, other);
                        due.is("9 ask", Sight.lastLetters(x, 1),
                                "6 from " + s + " to " + other + " for " + (5 + writer));
                    }
                }
            }
        }
    }

    /** "IndexOutOfBoundsException also when a is b." */
    private static void cableToItself() {
        for (int s = 0; s < 5; s++) {
            int same = s;
            for (Stations x : new Stations[] {new Stations(), crowded()}) {
                due.isThrown("2 there " + s, Wrong.INDEX, x, it -> it.cable(same, same, true));
                due.isThrown("2 torn " + s, Wrong.INDEX, x, it -> it.cable(same, same, false));
            }
        }
    }

    private static final int[][] NO_NOTICES = {
        {-1, 0, 0}, {4, 0, 0}, {0, -1, 0}, {0, 100, 0}, {0, 0, -1}, {0, 0, 100},
        {-1, 99, 99}, {4, 99, 99}, {3, -1, 99}, {3, 100, 99}, {3, 99, -1}, {3, 99, 100},
        {Integer.MIN_VALUE, 0, 0}, {Integer.MAX_VALUE, 0, 0}, {0, Integer.MIN_VALUE, 0},
        {0, Integer.MAX_VALUE, 0}, {0, 0, Integer.MIN_VALUE}, {0, 0, Integer.MAX_VALUE},
        {-1, -1, -1}, {4, 100, 100}, {4, -1, 0}, {-4, 1, 0}, {0, -100, 1}, {0, 400, -1}};

    /** "IllegalArgumentException when area, from or to is not as said": whatever the station. */
    private static void writeNoNotice() {
        Stations free = new Stations();
        Stations full = Post.written(16);
        Stations crowded = crowded();
        for (int[] no : NO_NOTICES) {
            String what = "3 area " + no[0] + " from " + no[1] + " to " + no[2];
            due.isThrown(what, Wrong.ARGUMENT, free, it -> it.write(2, no[0], no[1], no[2]));
            due.isThrown(what + ", full", Wrong.ARGUMENT, full,
                    it -> it.write(0, no[0], no[1], no[2]));
            for (int s = 0; s < 5; s++) {
                int station = s;
                due.isThrown(what + ", crowded", Wrong.ARGUMENT, crowded,
                        it -> it.write(station, no[0], no[1], no[2]));
            }
        }
    }

    /** "area 0 .. 3, from and to 0 .. 99": the least and the greatest are taken. */
    private static void writeEveryEdge() {
        for (int edge = 0; edge < 8; edge++) {
            int area = (edge & 1) == 0 ? 0 : 3;
            int from = (edge & 2) == 0 ? 0 : 99;
            int to = (edge & 4) == 0 ? 0 : 99;
            Stations x = new Stations();
            due.is("3 edge " + edge, x.write(1, area, from, to), 6);
            Post.finish(x, 1, 7);
            due.is("3 edge " + edge, x.entry(0, 0, false), area + 4 * from + 400 * to);
        }
    }

    /** Refused as busy, with few letters and with many: "where several fit, the first named". */
    private static void isBusy(String what, Stations x, int s) {
        Stations many = x.again();
        if (many.letters() == 0) {
            many.write(s == 4 ? 3 : 4, 0, 0, 0);
        }
        Post.fill(many, 40);
        due.isThrown("3 " + what, Wrong.STATE, x, it -> it.write(s, 0, 0, 0));
        due.isThrown("3 " + what + ", 40 letters", Wrong.STATE, many, it -> it.write(s, 0, 0, 0));
        int place = x.again().count(s) - 1;
        if (place >= 0) {
            due.isThrown("4 " + what, Wrong.STATE, x, it -> it.withdraw(s, place));
            due.isThrown("4 " + what + ", 40 letters", Wrong.STATE, many,
                    it -> it.withdraw(s, place));
        }
        for (int k : new int[] {-1, place + 1, Integer.MIN_VALUE, Integer.MAX_VALUE}) {
            due.isThrown("4 " + what + ", no notice", Wrong.ELEMENT, x, it -> it.withdraw(s, k));
            due.isThrown("4 " + what + ", no notice, 40 letters", Wrong.ELEMENT, many,
                    it -> it.withdraw(s, k));
        }
    }

    /** "IllegalStateException when the station is stopped, has a lock, or is in doubt." */
    private static void writeOfABusyStation() {
        for (int entries : new int[] {0, 1, 15, 16}) {
            Stations stopped = Post.written(entries);
            stopped.stop(0);
            isBusy("stopped, " + entries, stopped, 0);
            Stations open = Post.written(entries);
            open.write(1, 0, 0, 0);
            isBusy("collecting, " + entries, open, 1);
            Post.deliver(open, Post.LOCK, 1, 0);
            isBusy("locked by another, " + entries, open, 0);
        }
        Stations x = Post.written(1);
        x.write(2, 0, 0, 0);
        Post.grant(x, 2, 3);
        x.decide(2);
        isBusy("preparing", x, 2);
        Post.deliver(x, Post.PREPARE, 2, 0);
        isBusy("in doubt", x, 0);
        x.stop(0);
        isBusy("stopped in doubt", x, 0);
        x.start(0);
        isBusy("in doubt, started again", x, 0);
    }

    /** The same stations are taken as soon as they are free again. */
    private static void writeOfOneThatIsFreeAgain() {
        Stations x = Post.inDoubt(7);
        Post.deliver(x, Post.LOCK, 0, 3);
        x.unlock(3);
        due.is("3 unlocked", x.write(3, 0, 0, 0), 8);
        x.stop(4);
        x.start(4);
        due.is("3 started", x.write(4, 0, 0, 0), 9);
        x.giveUp(0);
        due.is("3 given up", x.write(0, 0, 0, 0), 10);
        Post.deliver(x, Post.ABORT, 0, 1);
        due.is("3 aborted", x.write(1, 0, 0, 0), 6);
        Stations y = Post.inDoubt(7);
        Post.prepared(y, 0, 6);
        due.is("3 committed itself", y.write(0, 0, 0, 0), 10);
        due.isThrown("3 not told yet", Wrong.STATE, y, it -> it.write(1, 0, 0, 0));
        Post.deliver(y, Post.COMMIT, 0, 1);
        due.is("3 told of it", y.write(1, 0, 0, 0), 6);
    }

    /** "there would be more than 40 letters": a write sends four. */
    private static void writeWithManyLetters() {
        for (int letters = 36; letters <= 40; letters++) {
            Stations x = Post.written(1);
            x.write(4, 0, 0, 0);
            Post.fill(x, letters);
            if (letters == 36) {
                Stations y = x.again();
                due.is("3 36 letters", x.write(0, 1, 1, 1), 10);
                due.is("3 36 letters", x.letters(), 40);
                due.is("4 36 letters", y.withdraw(0, 0), 10);
                due.is("4 36 letters", y.letters(), 40);
            } else {
                due.isThrown("3 " + letters + " letters", Wrong.TOO_MUCH, x,
                        it -> it.write(0, 1, 1, 1));
                due.isThrown("4 " + letters + " letters", Wrong.TOO_MUCH, x,
                        it -> it.withdraw(0, 0));
                due.isThrown("4 " + letters + " letters, no notice", Wrong.ELEMENT, x,
                        it -> it.withdraw(0, 1));
            }
        }
    }

    /** "UnsupportedOperationException also when its book has 16 entries." */
    private static void writeInAFullBook() {
        Stations x = Post.written(15);
        Stations y = x.again();
        due.is("3 the sixteenth", x.write(0, 3, 4, 5), 80);
        due.is("4 the sixteenth", y.withdraw(0, 14), 80);
        Post.finish(x, 0, 1);
        Post.finish(y, 0, 1);
        due.is("3 sixteen", x.count(0), 16);
        due.is("3 the last entry", x.entry(0, 15, false), 2019);
        due.is("4 sixteen", y.count(0), 16);
        due.is("4 the last entry", y.entry(0, 15, false), -15);
        due.isThrown("3 the seventeenth", Wrong.TOO_MUCH, x, it -> it.write(0, 0, 0, 0));
        for (int k = 0; k < 16; k++) {
            int place = k;
            due.isThrown("4 the seventeenth, of " + k, Wrong.TOO_MUCH, x,
                    it -> it.withdraw(0, place));
            due.isThrown("4 the seventeenth, of " + k, k < 14 ? Wrong.TOO_MUCH : Wrong.ELEMENT, y,
                    it -> it.withdraw(0, place));
        }
        due.isThrown("4 no such place", Wrong.ELEMENT, x, it -> it.withdraw(0, 16));
        due.is("3 another book is not full", x.write(1, 0, 0, 0), 6);
        due.is("4 another book is not full", y.withdraw(1, 1), 6);
    }

    /** "when its book has no notice at place k, or one that is withdrawn." */
    private static void withdrawNoNotice() {
        Stations x = new Stations();
        for (int k : Wrong.beside(0)) {
            due.isThrown("4 empty, " + k, Wrong.ELEMENT, x, it -> it.withdraw(3, k));
        }
        Post.notice(x, 0, 31, 0, 0, 0);
        Post.notice(x, 1, 31, 3, 99, 99);
        Post.withdrawal(x, 2, 15, 0);
        for (int k : new int[] {-1, -2, 3, 4, 16, Integer.MIN_VALUE, Integer.MAX_VALUE}) {
            due.isThrown("4 no place " + k, Wrong.ELEMENT, x, it -> it.withdraw(1, k));
        }
        due.isThrown("4 withdrawn", Wrong.ELEMENT, x, it -> it.withdraw(1, 0));
        due.isThrown("4 a withdrawal", Wrong.ELEMENT, x, it -> it.withdraw(1, 2));
        due.isThrown("4 not in its book", Wrong.ELEMENT, x, it -> it.withdraw(4, 2));
        due.is("4 the last notice", x.again().withdraw(1, 1), 11);
        due.is("4 not withdrawn in its book", x.again().withdraw(4, 0), 9);
        x.withdraw(1, 1);
        due.is("4 one that is to be withdrawn is not yet", x.withdraw(3, 1), 8);
    }

    /** Refused by decide, giveUp and resend alike: there is no open write. */
    private static void hasNoOpenWrite(String what, Stations x, int s) {
        due.isThrown("5 " + what, Wrong.STATE, x, it -> it.decide(s));
        due.isThrown("6 " + what, Wrong.STATE, x, it -> it.giveUp(s));
        due.isThrown("7 " + what, Wrong.STATE, x, it -> it.resend(s));
    }

    /** "IllegalStateException when there is no open write." */
    private static void noOpenWrite() {
        hasNoOpenWrite("never one", new Stations(), 4);
        Stations x = Post.inDoubt(7);
        Post.deliver(x, Post.LOCK, 0, 3);
        hasNoOpenWrite("in doubt", x, 1);
        hasNoOpenWrite("locked by another", x, 3);
        Stations stopped = x.again();
        stopped.stop(0);
        hasNoOpenWrite("stopped", stopped, 0);
        stopped.start(0);
        hasNoOpenWrite("started again", stopped, 0);
        Stations committed = x.again();
        Post.prepared(committed, 0, 6);
        hasNoOpenWrite("committed", committed, 0);
        x.giveUp(0);
        hasNoOpenWrite("given up", x, 0);
        Post.fill(x, 40);
        for (int s = 0; s < 5; s++) {
            hasNoOpenWrite("none, 40 letters", x, s);
        }
        Stations alone = Post.written(3);
        hasNoOpenWrite("committed at once", alone, 0);
        Stations full = Post.written(16);
        hasNoOpenWrite("none, a full book", full, 0);
    }

    /** "IllegalStateException when the station has no open write that collects." */
    private static void decideWhenItPrepares() {
        Stations x = new Stations();
        x.write(3, 0, 0, 0);
        Post.grant(x, 3, 7);
        due.is("5 it collects", x.decide(3), true);
        due.isThrown("5 it prepares", Wrong.STATE, x, it -> it.decide(3));
        Post.fill(x, 40);
        due.isThrown("5 it prepares, 40 letters", Wrong.STATE, x, it -> it.decide(3));
    }

    /** "false, changing nothing, when it may not", and no exception then. */
    private static void decideWhenItMayNot() {
        Stations x = new Stations();
        x.write(0, 0, 0, 0);
        due.changesNothing("5 alone", x, it -> due.is("5 alone", it.decide(0), false));
        Post.grant(x, 0, 2);
        due.changesNothing("5 two", x, it -> due.is("5 two", it.decide(0), false));
        Post.fill(x, 40);
        due.changesNothing("5 40 letters", x,
                it -> due.is("5 40 letters", it.decide(0), false));
        Post.grant(x, 0, 4);
        x.lose(0);
        due.is("5 it still collects", x.decide(0), true);
    }

    /** "also when the new book would have 17 entries": the holders' book tells. */
    private static void decideOfAFullBook() {
        Stations x = sixteenOfTwo();
        x.write(4, 0, 0, 0);
        due.is("5 those that are behind may not", x.decide(4), false);
        Post.grant(x, 4, 2);
        due.changesNothing("5 full, but it may not", x,
                it -> due.is("5 full, but it may not", it.decide(4), false));
        Post.grant(x, 4, 1);
        due.isThrown("5 17 entries", Wrong.TOO_MUCH, x, it -> it.decide(4));
        Post.fill(x, 40);
        due.isThrown("5 17 entries, 40 letters", Wrong.TOO_MUCH, x, it -> it.decide(4));
        Stations y = Post.written(15);
        y.write(4, 0, 0, 0);
        Post.grant(y, 4, 1);
        due.is("5 16 entries", y.decide(4), true);
        Post.prepare(y, 4, 1);
        Post.prepared(y, 4, 1);
        due.is("5 16 entries", y.count(4), 16);
    }

    /** Stations 0 and 1 have sixteen entries; 0 is the named one of these two. */
    private static Stations sixteenOfTwo() {
        Stations x = Post.written(15);
        x.write(0, 0, 0, 0);
        Post.finish(x, 0, 3);
        return x;
    }

    /** "there would be more than 40 letters": a PREPARE to each other one of the group. */
    private static void decideWithManyLetters() {
        int[] groups = {7, 15, 31};
        for (int group : groups) {
            int sent = Integer.bitCount(group) - 1;
            Stations x = new Stations();
            x.write(0, 0, 0, 0);
            x.twin(0);
            Post.grant(x, 0, group);
            Post.fill(x, 41 - sent);
            due.isThrown("5 41 letters, " + group, Wrong.TOO_MUCH, x, it -> it.decide(0));
            x.lose(0);
            due.is("5 40 letters, " + group, x.decide(0), true);
            due.is("5 40 letters, " + group, x.letters(), 40);
        }
        Stations alone = Post.written(3);
        alone.write(0, 0, 0, 0);
        Post.fill(alone, 40);
        due.is("5 alone it sends none", alone.decide(0), true);
        due.is("5 alone it sends none", alone.letters(), 40);
        due.is("5 alone it commits at once", alone.count(0), 4);
    }

    /** An ABORT to each other station: four, whoever granted. */
    private static void giveUpWithManyLetters() {
        Stations x = new Stations();
        x.write(0, 0, 0, 0);
        Stations y = Post.inDoubt(7);
        for (Stations open : new Stations[] {x, y}) {
            for (int letters = 37; letters <= 40; letters++) {
                Stations many = open.again();
                Post.fill(many, letters);
                due.isThrown("6 " + letters + " letters", Wrong.TOO_MUCH, many,
                        it -> it.giveUp(0));
            }
            Post.fill(open, 36);
            open.giveUp(0);
            due.is("6 36 letters", open.letters(), 40);
            due.is("6 36 letters", open.about(0, 5), NoticeStations.NONE);
        }
    }

    /** What a write waits for is as many letters as answers are missing. */
    private static void resendWithManyLetters() {
        for (int granted = 0; granted <= 4; granted++) {
            Stations x = new Stations();
            x.write(4, 0, 0, 0);
            x.twin(0);
            Post.grant(x, 4, (1 << granted) - 1);
            resendsAtMost("7 LOCKs", x, 4, 4 - granted);
        }
        for (int prepared = 0; prepared <= 3; prepared++) {
            Stations x = new Stations();
            x.write(4, 0, 0, 0);
            x.twin(0);
            Post.grant(x, 4, 15);
            x.decide(4);
            Post.prepare(x, 4, (1 << prepared) - 1);
            Post.prepared(x, 4, (1 << prepared) - 1);
            resendsAtMost("7 PREPAREs", x, 4, 4 - prepared);
        }
    }

    private static void resendsAtMost(String what, Stations x, int s, int missing) {
        Stations many = x.again();
        Post.fill(many, 40 - missing);
        if (missing > 0) {
            Stations tooMany = many.again();
            tooMany.twin(0);
            due.isThrown(what + ", 41 with " + missing, Wrong.TOO_MUCH, tooMany,
                    it -> it.resend(s));
        }
        due.is(what + ", 40 with " + missing, many.resend(s), missing);
        due.is(what + ", 40 with " + missing, many.letters(), 40);
    }

    /** "IllegalStateException when it has none, or an open write." */
    private static void unlockWithoutALock() {
        Stations x = Post.inDoubt(7);
        Post.deliver(x, Post.LOCK, 0, 3);
        due.isThrown("8 it prepares", Wrong.STATE, x, it -> it.unlock(0));
        due.isThrown("8 in doubt", Wrong.STATE, x, it -> it.unlock(1));
        due.isThrown("8 none", Wrong.STATE, x, it -> it.unlock(4));
        x.write(4, 0, 0, 0);
        due.isThrown("8 it collects", Wrong.STATE, x, it -> it.unlock(4));
        x.unlock(3);
        due.is("8 a lock", x.about(3, 4), NoticeStations.NONE);
        due.isThrown("8 once", Wrong.STATE, x, it -> it.unlock(3));
        x.giveUp(4);
        due.isThrown("8 given up", Wrong.STATE, x, it -> it.unlock(4));
        Post.deliver(x, Post.LOCK, 4, 3);
        Stations stopped = x.again();
        stopped.stop(3);
        due.isThrown("8 stopped, so it has none", Wrong.STATE, stopped, it -> it.unlock(3));
        stopped.start(3);
        due.isThrown("8 started again", Wrong.STATE, stopped, it -> it.unlock(3));
        Post.fill(x, 40);
        x.unlock(3);
        due.is("8 40 letters do not matter", x.about(3, 4), NoticeStations.NONE);
    }

    /** "IllegalStateException when it is stopped, or not in doubt", and before the letters. */
    private static void askRefused() {
        Stations x = Post.inDoubt(7);
        x.stop(2);
        Post.deliver(x, Post.LOCK, 0, 3);
        Stations many = x.again();
        Post.fill(many, 40);
        for (Stations each : new Stations[] {x, many}) {
            due.isThrown("9 stopped", Wrong.STATE, each, it -> it.ask(2, 0));
            due.isThrown("9 the writer", Wrong.STATE, each, it -> it.ask(0, 1));
            due.isThrown("9 locked", Wrong.STATE, each, it -> it.ask(3, 1));
            due.isThrown("9 free", Wrong.STATE, each, it -> it.ask(4, 1));
            for (int s = 0; s < 5; s++) {
                int same = s;
                due.isThrown("9 itself", Wrong.INDEX, each, it -> it.ask(same, same));
            }
        }
        due.isThrown("9 41 letters", Wrong.TOO_MUCH, many, it -> it.ask(1, 0));
        many.lose(0);
        many.ask(1, 0);
        due.is("9 40 letters", many.letters(), 40);
        x.giveUp(0);
        Post.deliver(x, Post.ABORT, 0, 1);
        due.isThrown("9 not in doubt any more", Wrong.STATE, x, it -> it.ask(1, 0));
        x.start(2);
        x.ask(2, 0);
        due.is("9 in doubt, started again", Sight.lastLetters(x, 1), "6 from 2 to 0 for 5");
    }

    public static void main(String[] args) {
        noSuchStation();
        everyStation();
        everyAsk();
        cableToItself();
        writeNoNotice();
        writeEveryEdge();
        writeOfABusyStation();
        writeOfOneThatIsFreeAgain();
        writeWithManyLetters();
        writeInAFullBook();
        withdrawNoNotice();
        noOpenWrite();
        decideWhenItPrepares();
        decideWhenItMayNot();
        decideOfAFullBook();
        decideWithManyLetters();
        giveUpWithManyLetters();
        resendWithManyLetters();
        unlockWithoutALock();
        askRefused();
        due.end();
    }
}
