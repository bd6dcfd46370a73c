import java.util.function.IntConsumer;
import java.util.function.IntUnaryOperator;

/** What can be seen of an object. */
final class Sight {
    private Sight() {
    }

    /** All that questions tell, and then the cables: to see them is to tear them. */
    static String of(Stations x) {
        StringBuilder all = new StringBuilder();
        for (int s = 0; s < 5; s++) {
            all.append("station ").append(s).append(": ").append(about(x, s)).append(" book")
                    .append(book(x, s)).append('\n');
        }
        all.append(letters(x)).append("\ncables");
        for (int a = 0; a < 5; a++) {
            for (int b = a + 1; b < 5; b++) {
                all.append(x.cable(a, b, false) ? " " + a + b : "");
            }
        }
        return all.toString();
    }

    /**
     * What comes of an object when it is used on. It shows what no question tells: who granted
     * and with what, who of the group is prepared, and what letters and those in doubt carry.
     */
    static String later(Stations x) {
        StringBuilder all = new StringBuilder();
        each(all, x::resend);
        bring(all, x, 50);
        each(all, x::resend);
        each(all, s -> x.decide(s) ? 1 : 0);
        bring(all, x, 40);
        each(all, does(s -> x.ask(s, (s + 1) % 5)));
        each(all, does(x::giveUp));
        bring(all, x, 20);
        for (int s = 0; s < 5; s++) {
            all.append("station ").append(s).append(": ").append(about(x, s)).append(" with ")
                    .append(x.count(s)).append('\n');
        }
        return all.toString();
    }

    private static IntUnaryOperator does(IntConsumer call) {
        return s -> {
            call.accept(s);
            return 0;
        };
    }

    private static void each(StringBuilder all, IntUnaryOperator call) {
        for (int s = 0; s < 5; s++) {
            all.append(answer(call, s)).append(' ');
        }
        all.append('\n');
    }

    private static String answer(IntUnaryOperator call, int argument) {
        try {
            return Integer.toString(call.applyAsInt(argument));
        } catch (RuntimeException e) {
            return e.getClass().getSimpleName();
        }
    }

    /** Delivers the first letter so many times; one that cannot be delivered is lost. */
    private static void bring(StringBuilder all, Stations x, int times) {
        for (int n = 0; n < times; n++) {
            String answer = answer(x::deliver, 0);
            all.append(answer).append(' ');
            if (answer.equals("IndexOutOfBoundsException")) {
                break;
            }
            if (answer.length() > 1) {
                x.lose(0);
            }
        }
        all.append('\n');
    }

    /** Size, named one, began, prepared for, lock, open write, up. */
    static String about(Stations x, int s) {
        StringBuilder all = new StringBuilder();
        for (int what = 0; what <= 6; what++) {
            all.append(what == 0 ? "" : " ").append(x.about(s, what));
        }
        return all.toString();
    }

    static String book(Stations x, int s) {
        StringBuilder all = new StringBuilder();
        int count = x.count(s);
        for (int k = 0; k < count; k++) {
            all.append(' ').append(x.entry(s, k, false)).append('#').append(x.entry(s, k, true));
        }
        return all.toString();
    }

    static String letter(Stations x, int i) {
        return x.letter(i, 0) + " from " + x.letter(i, 1) + " to " + x.letter(i, 2) + " for "
                + x.letter(i, 3);
    }

    static String letters(Stations x) {
        StringBuilder all = new StringBuilder();
        int count = x.letters();
        for (int i = 0; i < count; i++) {
            all.append(i == 0 ? "" : ", ").append(letter(x, i));
        }
        return all.toString();
    }

    /** The last so many letters. */
    static String lastLetters(Stations x, int many) {
        StringBuilder all = new StringBuilder();
        int count = x.letters();
        for (int i = Math.max(0, count - many); i < count; i++) {
            all.append(all.length() == 0 ? "" : ", ").append(letter(x, i));
        }
        return all.toString();
    }
}
