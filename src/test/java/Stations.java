import java.util.ArrayList;
import java.util.List;

/**
 * The program as the tests use it. It counts the calls, as the document promises nothing beyond
 * the 512th, and it keeps those that changed something, so that another object can be brought to
 * the same state: what a call did or did not do is looked for there, and costs this one no calls.
 */
final class Stations {
    static final int MOST_CALLS = 512;

    private interface Change {
        long make(NoticeStations real);
    }

    private final NoticeStations real = new NoticeStations();
    private final List<Change> changes = new ArrayList<>();
    private int calls = 0;

    /** A new object that went through the same changes. */
    Stations again() {
        Stations other = new Stations();
        for (Change change : changes) {
            other.changed(change);
        }
        return other;
    }

    int calls() {
        return calls;
    }

    private NoticeStations counted() {
        calls++;
        if (calls > MOST_CALLS) {
            throw new AssertionError("this test makes more than " + MOST_CALLS + " calls");
        }
        return real;
    }

    private long changed(Change change) {
        long answer = change.make(counted());
        changes.add(change);
        return answer;
    }

    boolean cable(int a, int b, boolean up) {
        return changed(r -> r.cable(a, b, up) ? 1 : 0) != 0;
    }

    int write(int station, int area, int from, int to) {
        return (int) changed(r -> r.write(station, area, from, to));
    }

    int withdraw(int station, int k) {
        return (int) changed(r -> r.withdraw(station, k));
    }

    boolean decide(int station) {
        return changed(r -> r.decide(station) ? 1 : 0) != 0;
    }

    void giveUp(int station) {
        changed(r -> {
            r.giveUp(station);
            return 0;
        });
    }

    int resend(int station) {
        return (int) changed(r -> r.resend(station));
    }

    void unlock(int station) {
        changed(r -> {
            r.unlock(station);
            return 0;
        });
    }

    void ask(int station, int other) {
        changed(r -> {
            r.ask(station, other);
            return 0;
        });
    }

    boolean stop(int station) {
        return changed(r -> r.stop(station) ? 1 : 0) != 0;
    }

    boolean start(int station) {
        return changed(r -> r.start(station) ? 1 : 0) != 0;
    }

    int letters() {
        return counted().letters();
    }

    int deliver(int i) {
        return (int) changed(r -> r.deliver(i));
    }

    void lose(int i) {
        changed(r -> {
            r.lose(i);
            return 0;
        });
    }

    void twin(int i) {
        changed(r -> {
            r.twin(i);
            return 0;
        });
    }

    int letter(int i, int what) {
        return counted().letter(i, what);
    }

    int count(int station) {
        return counted().count(station);
    }

    int entry(int station, int k, boolean number) {
        return counted().entry(station, k, number);
    }

    int about(int station, int what) {
        return counted().about(station, what);
    }

    boolean allowed(int mask) {
        return counted().allowed(mask);
    }

    int inForce(int station, int area, int day) {
        return counted().inForce(station, area, day);
    }
}
