import java.util.ArrayList;
import java.util.Arrays;
import java.util.NoSuchElementException;

/**
 * Five coastal stations that keep one book of notices over cables that tear. The right to write
 * belongs to a majority of those that took part in the last write.
 */
public final class NoticeStations {
    public static final int NONE = -1;

    private static final int STATIONS = 5;
    private static final int MOST_ENTRIES = 16;
    private static final int MOST_LETTERS = 40;

    private static final int AREAS = 4;
    private static final int DAYS = 100;

    private static final int LOCK = 0;
    private static final int GRANT = 1;
    private static final int PREPARE = 2;
    private static final int PREPARED = 3;
    private static final int COMMIT = 4;
    private static final int ABORT = 5;
    private static final int ASK = 6;

    private final Station[] stations = new Station[STATIONS];
    /** For each station the set of those that it has a cable to (1 << station each). */
    private final int[] cables = new int[STATIONS];
    private final ArrayList<Letter> row = new ArrayList<>();
    /** Used again by every call of allowed, so that the question makes no objects. */
    private final Standing[] asIfGranted = new Standing[STATIONS];

    public NoticeStations() {
        Standing first = new Standing(new int[0], new int[0], STATIONS, 0);
        for (int s = 0; s < STATIONS; s++) {
            stations[s] = new Station(s, first);
            cables[s] = (1 << STATIONS) - 1 - (1 << s);
        }
    }

    public boolean cable(int a, int b, boolean up) throws IndexOutOfBoundsException {
        requireTwoStations(a, b);
        boolean isUp = (cables[a] & (1 << b)) != 0;
        if (isUp == up) {
            return false;
        }
        cables[a] ^= 1 << b;
        cables[b] ^= 1 << a;
        return true;
    }

    public int write(int station, int area, int from, int to)
            throws IndexOutOfBoundsException, IllegalArgumentException, IllegalStateException,
            UnsupportedOperationException {
        Station writer = stationAt(station);
        if (!isBelow(area, AREAS) || !isBelow(from, DAYS) || !isBelow(to, DAYS)) {
            throw new IllegalArgumentException("no such notice");
        }
        return beginWrite(writer, area + AREAS * from + AREAS * DAYS * to);
    }

    public int withdraw(int station, int k)
            throws IndexOutOfBoundsException, NoSuchElementException, IllegalStateException,
            UnsupportedOperationException {
        Station writer = stationAt(station);
        if (!writer.stored.hasNoticeAt(k) || writer.stored.isWithdrawn(k)) {
            throw new NoSuchElementException("no notice to withdraw at this place");
        }
        return beginWrite(writer, withdrawalOf(k));
    }

    public boolean decide(int station)
            throws IndexOutOfBoundsException, IllegalStateException, UnsupportedOperationException {
        Station writer = stationAt(station);
        OpenWrite open = writer.open;
        if (open == null || !open.isCollecting()) {
            throw new IllegalStateException("no open write that collects");
        }
        Standing held = heldByHolders(open.granted);
        if (held == null || !mayGoOn(open.granted, held)) {
            return false;
        }
        if (held.length() >= MOST_ENTRIES) {
            throw new UnsupportedOperationException("the new book would be too long");
        }
        requireRoomFor(open.groupSize() - 1);
        open.prepareFrom(held, writer.own);
        sendAwaited(writer, open);
        commitIfAllPrepared(writer, open);
        return true;
    }

    public void giveUp(int station)
            throws IndexOutOfBoundsException, IllegalStateException, UnsupportedOperationException {
        Station writer = stationAt(station);
        OpenWrite open = openWriteOf(writer);
        requireRoomFor(STATIONS - 1);
        writer.forgetWrite();
        for (int s = 0; s < STATIONS; s++) {
            if (s != writer.own) {
                send(ABORT, writer.own, s, open.number, null);
            }
        }
    }

    public int resend(int station)
            throws IndexOutOfBoundsException, IllegalStateException, UnsupportedOperationException {
        Station writer = stationAt(station);
        OpenWrite open = openWriteOf(writer);
        int again = open.awaited();
        requireRoomFor(again);
        sendAwaited(writer, open);
        return again;
    }

    public void unlock(int station) throws IndexOutOfBoundsException, IllegalStateException {
        Station locked = stationAt(station);
        if (locked.lock == NONE || locked.open != null) {
            throw new IllegalStateException("no lock, or one of an open write of its own");
        }
        locked.lock = NONE;
    }

    public void ask(int station, int other)
            throws IndexOutOfBoundsException, IllegalStateException, UnsupportedOperationException {
        requireTwoStations(station, other);
        Station asker = stations[station];
        if (!asker.up || !asker.isInDoubt()) {
            throw new IllegalStateException("stopped, or not in doubt");
        }
        requireRoomFor(1);
        send(ASK, station, other, asker.preparedNumber, asker.preparedStanding);
    }

    public boolean stop(int station) throws IndexOutOfBoundsException {
        Station stopping = stationAt(station);
        boolean wasUp = stopping.up;
        stopping.up = false;
        stopping.forgetWrite();
        return wasUp;
    }

    public boolean start(int station) throws IndexOutOfBoundsException {
        Station starting = stationAt(station);
        boolean wasStopped = !starting.up;
        starting.up = true;
        // The document says this of every start, so one that was up loses them too.
        starting.forgetWrite();
        return wasStopped;
    }

    public int letters() {
        return row.size();
    }

    public int deliver(int i)
            throws IndexOutOfBoundsException, IllegalStateException, UnsupportedOperationException {
        Letter letter = letterAt(i);
        Station receiver = stations[letter.to];
        if (!receiver.up || !areInOnePiece(letter.from, letter.to)) {
            throw new IllegalStateException("the letter cannot reach its receiver");
        }
        requireRoomFor(answersTo(letter, receiver) - 1);
        row.remove(i);
        take(letter, receiver);
        return letter.kind;
    }

    public void lose(int i) throws IndexOutOfBoundsException {
        requireLetter(i);
        row.remove(i);
    }

    public void twin(int i) throws IndexOutOfBoundsException, UnsupportedOperationException {
        Letter letter = letterAt(i);
        requireRoomFor(1);
        row.add(letter);
    }

    public int letter(int i, int what) throws IndexOutOfBoundsException, IllegalArgumentException {
        Letter letter = letterAt(i);
        switch (what) {
            case 0:
                return letter.kind;
            case 1:
                return letter.from;
            case 2:
                return letter.to;
            case 3:
                return letter.number;
            default:
                throw new IllegalArgumentException("no such part of a letter");
        }
    }

    public int count(int station) throws IndexOutOfBoundsException {
        return stationAt(station).stored.length();
    }

    public int entry(int station, int k, boolean number)
            throws IndexOutOfBoundsException, NoSuchElementException {
        Standing stored = stationAt(station).stored;
        if (!isBelow(k, stored.length())) {
            throw new NoSuchElementException("no entry at this place");
        }
        return number ? stored.numbers[k] : stored.entries[k];
    }

    public int about(int station, int what)
            throws IndexOutOfBoundsException, IllegalArgumentException {
        Station asked = stationAt(station);
        switch (what) {
            case 0:
                return asked.stored.size;
            case 1:
                return asked.stored.named;
            case 2:
                return asked.began;
            case 3:
                return asked.preparedNumber;
            case 4:
                return asked.lock;
            case 5:
                return asked.open == null ? NONE : asked.open.number;
            case 6:
                return asked.up ? 1 : 0;
            default:
                throw new IllegalArgumentException("no such thing about a station");
        }
    }

    public boolean allowed(int mask) throws IllegalArgumentException {
        if (!isBelow(mask, 1 << STATIONS)) {
            throw new IllegalArgumentException("no such set of stations");
        }
        for (int s = 0; s < STATIONS; s++) {
            boolean isAsked = (mask & (1 << s)) != 0;
            if (isAsked && !stations[s].isFree()) {
                return false;
            }
            asIfGranted[s] = isAsked ? stations[s].stored : null;
        }
        Standing held = heldByHolders(asIfGranted);
        return held != null && mayGoOn(asIfGranted, held);
    }

    public int inForce(int station, int area, int day) throws IndexOutOfBoundsException {
        Standing stored = stationAt(station).stored;
        int found = 0;
        for (int k = 0; k < stored.length(); k++) {
            if (stored.hasNoticeAt(k) && isOn(stored.entries[k], area, day)
                    && !stored.isWithdrawn(k)) {
                found++;
            }
        }
        return found;
    }

    private static boolean isBelow(int value, int bound) {
        return value >= 0 && value < bound;
    }

    private static int withdrawalOf(int k) {
        return -1 - k;
    }

    private static boolean isOn(int notice, int area, int day) {
        int from = notice / AREAS % DAYS;
        int to = notice / (AREAS * DAYS);
        return notice % AREAS == area && from <= day && day <= to;
    }

    private Station stationAt(int station) {
        if (!isBelow(station, STATIONS)) {
            throw new IndexOutOfBoundsException("no such station");
        }
        return stations[station];
    }

    private void requireTwoStations(int a, int b) {
        if (!isBelow(a, STATIONS) || !isBelow(b, STATIONS) || a == b) {
            throw new IndexOutOfBoundsException("no two such stations");
        }
    }

    private void requireLetter(int i) {
        if (!isBelow(i, row.size())) {
            throw new IndexOutOfBoundsException("no such letter");
        }
    }

    private Letter letterAt(int i) {
        requireLetter(i);
        return row.get(i);
    }

    private OpenWrite openWriteOf(Station writer) {
        OpenWrite open = writer.open;
        if (open == null) {
            throw new IllegalStateException("no open write");
        }
        return open;
    }

    private void requireRoomFor(int more) {
        if (row.size() + more > MOST_LETTERS) {
            throw new UnsupportedOperationException("too many letters");
        }
    }

    private void send(int kind, int from, int to, int number, Standing standing) {
        row.add(new Letter(kind, from, to, number, standing));
    }

    private void sendBack(int kind, Letter letter, Standing standing) {
        send(kind, letter.to, letter.from, letter.number, standing);
    }

    private boolean areInOnePiece(int a, int b) {
        int reached = 1 << a;
        // A way over all the others is the longest: one cable fewer than there are stations.
        for (int cablesOnTheWay = 1; cablesOnTheWay < STATIONS; cablesOnTheWay++) {
            for (int s = 0; s < STATIONS; s++) {
                if ((reached & (1 << s)) != 0) {
                    reached |= cables[s];
                }
            }
        }
        return (reached & (1 << b)) != 0;
    }

    private int beginWrite(Station writer, int entry) {
        if (!writer.isFree()) {
            throw new IllegalStateException("stopped, locked or in doubt");
        }
        if (writer.stored.length() >= MOST_ENTRIES) {
            throw new UnsupportedOperationException("the book is full");
        }
        requireRoomFor(STATIONS - 1);
        writer.began++;
        OpenWrite open = new OpenWrite(STATIONS * writer.began + writer.own, entry);
        open.granted[writer.own] = writer.stored;
        writer.open = open;
        writer.lock = open.number;
        sendAwaited(writer, open);
        return open.number;
    }

    /** The standing of those that have the most entries; null when none granted. */
    private static Standing heldByHolders(Standing[] granted) {
        Standing held = null;
        for (int s = 0; s < STATIONS; s++) {
            if (granted[s] != null && (held == null || granted[s].length() > held.length())) {
                held = granted[s];
            }
        }
        return held;
    }

    private static boolean mayGoOn(Standing[] granted, Standing held) {
        int holders = 0;
        boolean hasNamed = false;
        for (int s = 0; s < STATIONS; s++) {
            if (granted[s] != null && granted[s].length() == held.length()) {
                holders++;
                hasNamed = hasNamed || s == held.named;
            }
        }
        return 2 * holders > held.size || (2 * holders == held.size && hasNamed);
    }

    private void sendAwaited(Station writer, OpenWrite open) {
        for (int s = 0; s < STATIONS; s++) {
            if (open.awaits(s)) {
                send(open.isCollecting() ? LOCK : PREPARE, writer.own, s, open.number, open.next);
            }
        }
    }

    private void commitIfAllPrepared(Station writer, OpenWrite open) {
        if (open.isCollecting() || open.awaited() > 0) {
            return;
        }
        writer.stored = open.next;
        writer.forgetWrite();
        for (int s = 0; s < STATIONS; s++) {
            if (s != writer.own && open.isOfGroup(s)) {
                send(COMMIT, writer.own, s, open.number, null);
            }
        }
    }

    /** The most letters that taking this one may send. */
    private static int answersTo(Letter letter, Station receiver) {
        OpenWrite open = openWriteFor(letter, receiver);
        if (letter.kind == PREPARED && open != null && !open.isCollecting()
                && open.awaits(letter.from) && open.awaited() == 1) {
            return open.groupSize() - 1;
        }
        return 1;
    }

    /** The receiver's open write, if it is the one that the letter is for; otherwise null. */
    private static OpenWrite openWriteFor(Letter letter, Station receiver) {
        OpenWrite open = receiver.open;
        return open != null && open.number == letter.number ? open : null;
    }

    private void take(Letter letter, Station receiver) {
        switch (letter.kind) {
            case LOCK:
                takeLock(letter, receiver);
                break;
            case GRANT:
                takeGrant(letter, receiver);
                break;
            case PREPARE:
                takePrepare(letter, receiver);
                break;
            case PREPARED:
                takePrepared(letter, receiver);
                break;
            case COMMIT:
                takeCommit(letter, receiver);
                break;
            case ABORT:
                takeAbort(letter, receiver);
                break;
            default:
                takeAsk(letter, receiver);
                break;
        }
    }

    private void takeLock(Letter letter, Station receiver) {
        if (receiver.isFree()) {
            receiver.lock = letter.number;
        }
        if (receiver.lock == letter.number && receiver.open == null) {
            sendBack(GRANT, letter, receiver.stored);
        }
    }

    private void takeGrant(Letter letter, Station receiver) {
        OpenWrite open = openWriteFor(letter, receiver);
        if (open != null && open.isCollecting() && open.granted[letter.from] == null) {
            open.granted[letter.from] = letter.standing;
        }
    }

    private void takePrepare(Letter letter, Station receiver) {
        if (receiver.lock == letter.number && letter.goesOnFrom(receiver.stored)) {
            receiver.lock = NONE;
            receiver.preparedNumber = letter.number;
            receiver.preparedStanding = letter.standing;
        }
        if (receiver.isPreparedFor(letter.number)) {
            sendBack(PREPARED, letter, null);
        }
    }

    private void takePrepared(Letter letter, Station receiver) {
        OpenWrite open = openWriteFor(letter, receiver);
        if (open != null && !open.isCollecting() && open.isOfGroup(letter.from)) {
            open.prepared[letter.from] = true;
            commitIfAllPrepared(receiver, open);
        }
    }

    private void takeCommit(Letter letter, Station receiver) {
        if (receiver.isPreparedFor(letter.number)) {
            receiver.stored = receiver.preparedStanding;
            receiver.endDoubt();
        }
    }

    private void takeAbort(Letter letter, Station receiver) {
        if (receiver.isPreparedFor(letter.number)) {
            receiver.endDoubt();
        }
        if (receiver.lock == letter.number && receiver.open == null) {
            receiver.lock = NONE;
        }
    }

    private void takeAsk(Letter letter, Station receiver) {
        if (receiver.stored.hasNumber(letter.number)) {
            sendBack(COMMIT, letter, null);
        } else if (receiver.hasEndedWrite(letter.number)
                || receiver.stored.length() >= letter.bookLength()) {
            sendBack(ABORT, letter, null);
        }
    }

    /**
     * A book with the size and the named station that belong to it: the three are always granted,
     * prepared and stored together. It is never changed, so stations and letters may share it.
     */
    private static final class Standing {
        private final int[] entries;
        private final int[] numbers;
        private final int size;
        private final int named;

        private Standing(int[] entries, int[] numbers, int size, int named) {
            this.entries = entries;
            this.numbers = numbers;
            this.size = size;
            this.named = named;
        }

        private int length() {
            return entries.length;
        }

        private boolean hasNoticeAt(int k) {
            return isBelow(k, entries.length) && entries[k] >= 0;
        }

        private boolean isWithdrawn(int k) {
            int withdrawal = withdrawalOf(k);
            for (int place = 0; place < entries.length; place++) {
                if (entries[place] == withdrawal) {
                    return true;
                }
            }
            return false;
        }

        private boolean hasNumber(int number) {
            for (int place = 0; place < numbers.length; place++) {
                if (numbers[place] == number) {
                    return true;
                }
            }
            return false;
        }

        /** Whether the earlier book is the beginning of this one, and shorter. */
        private boolean goesOnFrom(Standing earlier) {
            if (earlier.length() >= length()) {
                return false;
            }
            for (int k = 0; k < earlier.length(); k++) {
                if (entries[k] != earlier.entries[k] || numbers[k] != earlier.numbers[k]) {
                    return false;
                }
            }
            return true;
        }

        private Standing followedBy(int entry, int number, int newSize, int newNamed) {
            int last = length();
            int[] newEntries = Arrays.copyOf(entries, last + 1);
            int[] newNumbers = Arrays.copyOf(numbers, last + 1);
            newEntries[last] = entry;
            newNumbers[last] = number;
            return new Standing(newEntries, newNumbers, newSize, newNamed);
        }
    }

    /** A letter is never changed, so a twin is the same one lying in the row twice. */
    private static final class Letter {
        private final int kind;
        private final int from;
        private final int to;
        private final int number;
        /** What a GRANT or PREPARE carries, or an ASK's sender is prepared for; otherwise null. */
        private final Standing standing;

        private Letter(int kind, int from, int to, int number, Standing standing) {
            this.kind = kind;
            this.from = from;
            this.to = to;
            this.number = number;
            this.standing = standing;
        }

        /** Whether a stored book is the beginning of the letter's, and shorter. */
        private boolean goesOnFrom(Standing stored) {
            return standing != null && standing.goesOnFrom(stored);
        }

        private int bookLength() {
            return standing == null ? 0 : standing.length();
        }
    }

    private static final class OpenWrite {
        private final int number;
        private final int entry;
        /** By station; null where it did not grant. Those that did are the group later. */
        private final Standing[] granted = new Standing[STATIONS];
        private final boolean[] prepared = new boolean[STATIONS];
        /** What is to be stored; null as long as the write collects. */
        private Standing next = null;

        private OpenWrite(int number, int entry) {
            this.number = number;
            this.entry = entry;
        }

        private boolean isCollecting() {
            return next == null;
        }

        private boolean isOfGroup(int s) {
            return granted[s] != null;
        }

        /** Whether the write waits for that station's GRANT or PREPARED. */
        private boolean awaits(int s) {
            return isCollecting() ? granted[s] == null : isOfGroup(s) && !prepared[s];
        }

        private int awaited() {
            int found = 0;
            for (int s = 0; s < STATIONS; s++) {
                if (awaits(s)) {
                    found++;
                }
            }
            return found;
        }

        private int groupSize() {
            int found = 0;
            for (int s = 0; s < STATIONS; s++) {
                if (isOfGroup(s)) {
                    found++;
                }
            }
            return found;
        }

        private int leastOfGroup() {
            for (int s = 0; s < STATIONS; s++) {
                if (isOfGroup(s)) {
                    return s;
                }
            }
            return NONE;
        }

        private void prepareFrom(Standing held, int own) {
            next = held.followedBy(entry, number, groupSize(), leastOfGroup());
            prepared[own] = true;
        }
    }

    private static final class Station {
        private final int own;
        private boolean up = true;
        private Standing stored;
        private int began = 0;
        /** NONE and null, unless the station is in doubt. */
        private int preparedNumber = NONE;
        private Standing preparedStanding = null;
        private int lock = NONE;
        private OpenWrite open = null;

        private Station(int own, Standing stored) {
            this.own = own;
            this.stored = stored;
        }

        private boolean isInDoubt() {
            return preparedStanding != null;
        }

        private boolean isPreparedFor(int number) {
            return isInDoubt() && preparedNumber == number;
        }

        private boolean isFree() {
            return up && lock == NONE && !isInDoubt();
        }

        private void forgetWrite() {
            lock = NONE;
            open = null;
        }

        private void endDoubt() {
            preparedNumber = NONE;
            preparedStanding = null;
        }

        /** Whether the number is that of a write of its own that is not open any more. */
        private boolean hasEndedWrite(int number) {
            return number % STATIONS == own && (open == null || open.number != number);
        }
    }
}
