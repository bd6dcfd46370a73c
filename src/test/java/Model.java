import java.util.ArrayList;
import java.util.HashSet;
import java.util.List;
import java.util.Map;
import java.util.NoSuchElementException;
import java.util.Set;
import java.util.TreeMap;
import java.util.TreeSet;

/**
 * The document told once more, sentence by sentence and without care for speed: every call works
 * on a copy, which is thrown away if the call throws. RandomRunsTest compares the program with it.
 */
final class Model {
    record Item(int entry, int number) {
    }

    record Held(List<Item> book, int size, int named) {
    }

    record Mail(int kind, int from, int to, int number, Held held, int entries) {
    }

    static final class Open {
        int number;
        int entry;
        boolean preparing;
        Map<Integer, Held> granted = new TreeMap<>();
        Held fresh;
        Set<Integer> prepared = new HashSet<>();

        Open copy() {
            Open o = new Open();
            o.number = number;
            o.entry = entry;
            o.preparing = preparing;
            o.granted = new TreeMap<>(granted);
            o.fresh = fresh;
            o.prepared = new HashSet<>(prepared);
            return o;
        }
    }

    static final class Place {
        Held held = new Held(List.of(), 5, 0);
        int began;
        Integer doubtNumber;
        Held doubtHeld;
        boolean up = true;
        Integer lock;
        Open open;

        Place copy() {
            Place p = new Place();
            p.held = held;
            p.began = began;
            p.doubtNumber = doubtNumber;
            p.doubtHeld = doubtHeld;
            p.up = up;
            p.lock = lock;
            p.open = open == null ? null : open.copy();
            return p;
        }

        boolean busy() {
            return !up || lock != null || doubtNumber != null;
        }
    }

    List<Place> places = new ArrayList<>();
    Set<Integer> torn = new HashSet<>();
    List<Mail> row = new ArrayList<>();

    Model() {
        for (int s = 0; s < 5; s++) {
            places.add(new Place());
        }
    }

    Model copy() {
        Model m = new Model();
        for (int s = 0; s < 5; s++) {
            m.places.set(s, places.get(s).copy());
        }
        m.torn = new HashSet<>(torn);
        m.row = new ArrayList<>(row);
        return m;
    }

    /** One call, on this very object: copy it first, a call that throws may have changed it. */
    long call(String name, int a, int b, int c, int d) {
        long answer = switch (name) {
            case "cable" -> cable(a, b, c != 0);
            case "write" -> write(a, b, c, d);
            case "withdraw" -> withdraw(a, b);
            case "decide" -> decide(a);
            case "giveUp" -> giveUp(a);
            case "resend" -> resend(a);
            case "unlock" -> unlock(a);
            case "ask" -> ask(a, b);
            case "stop" -> stop(a);
            case "start" -> start(a);
            case "letters" -> row.size();
            case "deliver" -> deliver(a);
            case "lose" -> lose(a);
            case "twin" -> twin(a);
            case "letter" -> letter(a, b);
            case "count" -> at(a).held.book.size();
            case "entry" -> entry(a, b, c != 0);
            case "about" -> about(a, b);
            case "allowed" -> allowed(a);
            case "inForce" -> inForce(a, b, c);
            default -> throw new AssertionError(name);
        };
        if (row.size() > 40) {
            throw new UnsupportedOperationException();
        }
        return answer;
    }

    /** Whether two stations have different entries at a place: this may never be. */
    boolean isSplit() {
        for (Place p : places) {
            for (Place q : places) {
                int both = Math.min(p.held.book.size(), q.held.book.size());
                if (!p.held.book.subList(0, both).equals(q.held.book.subList(0, both))) {
                    return true;
                }
                if (p.held.book.equals(q.held.book) && !p.held.equals(q.held)) {
                    return true;
                }
            }
        }
        return false;
    }

    private Place at(int s) {
        if (s < 0 || s > 4) {
            throw new IndexOutOfBoundsException();
        }
        return places.get(s);
    }

    private Mail mail(int i) {
        if (i < 0 || i >= row.size()) {
            throw new IndexOutOfBoundsException();
        }
        return row.get(i);
    }

    private static int pair(int a, int b) {
        return Math.min(a, b) * 5 + Math.max(a, b);
    }

    private static long bit(boolean b) {
        return b ? 1 : 0;
    }

    private long cable(int a, int b, boolean up) {
        at(a);
        at(b);
        if (a == b) {
            throw new IndexOutOfBoundsException();
        }
        return bit(up ? torn.remove(pair(a, b)) : torn.add(pair(a, b)));
    }

    private long write(int s, int area, int from, int to) {
        at(s);
        if (area < 0 || area > 3 || from < 0 || from > 99 || to < 0 || to > 99) {
            throw new IllegalArgumentException();
        }
        return begin(s, area + 4 * from + 400 * to);
    }

    private long withdraw(int s, int k) {
        List<Item> book = at(s).held.book;
        if (k < 0 || k >= book.size() || book.get(k).entry < 0 || withdrawn(book, k)) {
            throw new NoSuchElementException();
        }
        return begin(s, -1 - k);
    }

    private static boolean withdrawn(List<Item> book, int k) {
        return book.stream().anyMatch(item -> item.entry == -1 - k);
    }

    private long begin(int s, int entry) {
        Place p = at(s);
        if (p.busy()) {
            throw new IllegalStateException();
        }
        if (p.held.book.size() == 16) {
            throw new UnsupportedOperationException();
        }
        p.began++;
        p.open = new Open();
        p.open.number = 5 * p.began + s;
        p.open.entry = entry;
        p.open.granted.put(s, p.held);
        p.lock = p.open.number;
        for (int other = 0; other < 5; other++) {
            if (other != s) {
                row.add(new Mail(0, s, other, p.open.number, null, 0));
            }
        }
        return p.open.number;
    }

    private static Held holding(Map<Integer, Held> granted) {
        int most = granted.values().stream().mapToInt(h -> h.book.size()).max().orElse(0);
        Set<Integer> holders = new TreeSet<>();
        Held held = null;
        for (Map.Entry<Integer, Held> g : granted.entrySet()) {
            if (g.getValue().book.size() == most) {
                holders.add(g.getKey());
                held = g.getValue();
            }
        }
        if (held == null) {
            return null;
        }
        double half = held.size / 2.0;
        boolean may = holders.size() > half
                || holders.size() == half && holders.contains(held.named);
        return may ? held : null;
    }

    private long decide(int s) {
        Open o = at(s).open;
        if (o == null || o.preparing) {
            throw new IllegalStateException();
        }
        Held held = holding(o.granted);
        if (held == null) {
            return 0;
        }
        List<Item> book = new ArrayList<>(held.book);
        book.add(new Item(o.entry, o.number));
        if (book.size() == 17) {
            throw new UnsupportedOperationException();
        }
        int least = new TreeSet<>(o.granted.keySet()).first();
        o.fresh = new Held(List.copyOf(book), o.granted.size(), least);
        o.preparing = true;
        o.prepared.add(s);
        for (int other : o.granted.keySet()) {
            if (other != s) {
                row.add(new Mail(2, s, other, o.number, o.fresh, 0));
            }
        }
        perhapsCommit(s);
        return 1;
    }

    private void perhapsCommit(int s) {
        Place p = at(s);
        Open o = p.open;
        if (!o.prepared.containsAll(o.granted.keySet())) {
            return;
        }
        p.held = o.fresh;
        p.lock = null;
        p.open = null;
        for (int other : o.granted.keySet()) {
            if (other != s) {
                row.add(new Mail(4, s, other, o.number, null, 0));
            }
        }
    }

    private Open open(int s) {
        if (at(s).open == null) {
            throw new IllegalStateException();
        }
        return at(s).open;
    }

    private long giveUp(int s) {
        int number = open(s).number;
        at(s).open = null;
        at(s).lock = null;
        for (int other = 0; other < 5; other++) {
            if (other != s) {
                row.add(new Mail(5, s, other, number, null, 0));
            }
        }
        return 0;
    }

    private long resend(int s) {
        Open o = open(s);
        int before = row.size();
        for (int other = 0; other < 5; other++) {
            if (!o.preparing && !o.granted.containsKey(other)) {
                row.add(new Mail(0, s, other, o.number, null, 0));
            }
            if (o.preparing && o.granted.containsKey(other) && !o.prepared.contains(other)) {
                row.add(new Mail(2, s, other, o.number, o.fresh, 0));
            }
        }
        return row.size() - before;
    }

    private long unlock(int s) {
        Place p = at(s);
        if (p.lock == null || p.open != null) {
            throw new IllegalStateException();
        }
        p.lock = null;
        return 0;
    }

    private long ask(int s, int other) {
        at(s);
        at(other);
        if (s == other) {
            throw new IndexOutOfBoundsException();
        }
        Place p = at(s);
        if (!p.up || p.doubtNumber == null) {
            throw new IllegalStateException();
        }
        row.add(new Mail(6, s, other, p.doubtNumber, null, p.doubtHeld.book.size()));
        return 0;
    }

    private long stop(int s) {
        boolean was = at(s).up;
        at(s).up = false;
        at(s).lock = null;
        at(s).open = null;
        return bit(was);
    }

    private long start(int s) {
        boolean was = at(s).up;
        at(s).up = true;
        at(s).lock = null;
        at(s).open = null;
        return bit(!was);
    }

    private boolean joined(int a, int b, Set<Integer> seen) {
        if (a == b) {
            return true;
        }
        seen.add(a);
        for (int s = 0; s < 5; s++) {
            if (s != a && !seen.contains(s) && !torn.contains(pair(a, s)) && joined(s, b, seen)) {
                return true;
            }
        }
        return false;
    }

    private long deliver(int i) {
        Mail m = mail(i);
        Place p = at(m.to);
        if (!joined(m.from, m.to, new HashSet<>()) || !p.up) {
            throw new IllegalStateException();
        }
        row.remove(i);
        boolean ownOpen = p.open != null && p.open.number == m.number;
        switch (m.kind) {
            case 0 -> {
                if (p.lock == null && p.doubtNumber == null) {
                    p.lock = m.number;
                }
                if (p.lock != null && p.lock == m.number && p.open == null) {
                    back(m, 1, p.held);
                }
            }
            case 1 -> {
                if (ownOpen && !p.open.preparing) {
                    p.open.granted.putIfAbsent(m.from, m.held);
                }
            }
            case 2 -> {
                List<Item> mine = p.held.book;
                List<Item> its = m.held.book;
                if (p.lock != null && p.lock == m.number && mine.size() < its.size()
                        && its.subList(0, mine.size()).equals(mine)) {
                    p.lock = null;
                    p.doubtNumber = m.number;
                    p.doubtHeld = m.held;
                }
                if (p.doubtNumber != null && p.doubtNumber == m.number) {
                    back(m, 3, null);
                }
            }
            case 3 -> {
                if (ownOpen && p.open.preparing && p.open.granted.containsKey(m.from)) {
                    p.open.prepared.add(m.from);
                    perhapsCommit(m.to);
                }
            }
            case 4 -> {
                if (p.doubtNumber != null && p.doubtNumber == m.number) {
                    p.held = p.doubtHeld;
                    p.doubtNumber = null;
                    p.doubtHeld = null;
                }
            }
            case 5 -> {
                if (p.doubtNumber != null && p.doubtNumber == m.number) {
                    p.doubtNumber = null;
                    p.doubtHeld = null;
                }
                if (p.lock != null && p.lock == m.number && p.open == null) {
                    p.lock = null;
                }
            }
            default -> {
                if (p.held.book.stream().anyMatch(item -> item.number == m.number)) {
                    back(m, 4, null);
                } else if (m.number % 5 == m.to && !ownOpen
                        || p.held.book.size() >= m.entries) {
                    back(m, 5, null);
                }
            }
        }
        return m.kind;
    }

    private void back(Mail m, int kind, Held held) {
        row.add(new Mail(kind, m.to, m.from, m.number, held, 0));
    }

    private long lose(int i) {
        mail(i);
        row.remove(i);
        return 0;
    }

    private long twin(int i) {
        row.add(mail(i));
        return 0;
    }

    private long letter(int i, int what) {
        Mail m = mail(i);
        if (what < 0 || what > 3) {
            throw new IllegalArgumentException();
        }
        return new int[] {m.kind, m.from, m.to, m.number}[what];
    }

    private long entry(int s, int k, boolean number) {
        List<Item> book = at(s).held.book;
        if (k < 0 || k >= book.size()) {
            throw new NoSuchElementException();
        }
        return number ? book.get(k).number : book.get(k).entry;
    }

    private long about(int s, int what) {
        Place p = at(s);
        if (what < 0 || what > 6) {
            throw new IllegalArgumentException();
        }
        return new int[] {
            p.held.size, p.held.named, p.began, p.doubtNumber == null ? -1 : p.doubtNumber,
            p.lock == null ? -1 : p.lock, p.open == null ? -1 : p.open.number, p.up ? 1 : 0
        }[what];
    }

    private long allowed(int mask) {
        if (mask < 0 || mask > 31) {
            throw new IllegalArgumentException();
        }
        Map<Integer, Held> granted = new TreeMap<>();
        for (int s = 0; s < 5; s++) {
            if ((mask >> s & 1) == 1) {
                if (at(s).busy()) {
                    return 0;
                }
                granted.put(s, at(s).held);
            }
        }
        return bit(holding(granted) != null);
    }

    private long inForce(int s, int area, int day) {
        List<Item> book = at(s).held.book;
        long found = 0;
        for (int k = 0; k < book.size(); k++) {
            int e = book.get(k).entry;
            if (e >= 0 && e % 4 == area && e / 4 % 100 <= day && day <= e / 400
                    && !withdrawn(book, k)) {
                found++;
            }
        }
        return found;
    }
}
