/** All that can be seen of an object by calls that change nothing. */
final class Sight {
    private Sight() {
    }

    static String of(NoticeStations x) {
        StringBuilder all = new StringBuilder();
        for (int s = 0; s < 5; s++) {
            all.append("station ").append(s).append(": ").append(about(x, s)).append(" book")
                    .append(book(x, s)).append('\n');
        }
        for (int i = 0; i < x.letters(); i++) {
            all.append(letter(x, i)).append('\n');
        }
        return all.toString();
    }

    /** Size, named one, began, prepared for, lock, open write, up. */
    static String about(NoticeStations x, int s) {
        StringBuilder all = new StringBuilder();
        for (int what = 0; what <= 6; what++) {
            all.append(what == 0 ? "" : " ").append(x.about(s, what));
        }
        return all.toString();
    }

    static String book(NoticeStations x, int s) {
        StringBuilder all = new StringBuilder();
        for (int k = 0; k < x.count(s); k++) {
            all.append(' ').append(x.entry(s, k, false)).append('#').append(x.entry(s, k, true));
        }
        return all.toString();
    }

    static String letter(NoticeStations x, int i) {
        return x.letter(i, 0) + " from " + x.letter(i, 1) + " to " + x.letter(i, 2) + " for "
                + x.letter(i, 3);
    }

    static String letters(NoticeStations x) {
        StringBuilder all = new StringBuilder();
        for (int i = 0; i < x.letters(); i++) {
            all.append(i == 0 ? "" : ", ").append(letter(x, i));
        }
        return all.toString();
    }
}
