import java.util.ArrayList;
import java.util.List;
import java.util.Random;

/**
 * Random runs of 512 calls, always the same ones: each answer is compared with the model's, and
 * no two stations may ever have different entries at a place.
 */
public final class RandomRunsTest {
    private static final int RUNS = 3000;
    private static final int CALLS = 512;
    private static final int[] ODD = {-1, 5, 40, 99, 100, Integer.MIN_VALUE, Integer.MAX_VALUE};

    /** How often each call is made, in the four tempers that a run may have. */
    private static final String[] NAMES = {
        "cable", "write", "withdraw", "decide", "giveUp", "resend", "unlock", "ask", "stop",
        "start", "letters", "deliver", "lose", "twin", "letter", "count", "entry", "about",
        "allowed", "inForce"};
    private static final int[][] TEMPERS = {
        {1, 30, 15, 40, 2, 4, 6, 10, 1, 4, 4, 250, 8, 4, 20, 5, 15, 30, 15, 10},
        {20, 30, 15, 40, 8, 15, 20, 30, 10, 15, 4, 200, 10, 20, 20, 5, 15, 40, 20, 10},
        {4, 30, 15, 30, 15, 20, 20, 40, 2, 6, 10, 120, 4, 30, 20, 5, 15, 40, 20, 10},
        {10, 60, 40, 80, 2, 4, 6, 10, 1, 4, 4, 100, 80, 4, 10, 5, 15, 30, 15, 20}};

    private record Call(String name, int a, int b, int c, int d) {
    }

    private final Random random;
    private final int[] weights;
    /** How many calls of a hundred carry a write on. */
    private final int purpose;
    private final int run;
    private final Due due;
    private final NoticeStations x = new NoticeStations();
    private final List<String> told = new ArrayList<>();
    private Model model = new Model();

    private RandomRunsTest(int run, Due due) {
        this.run = run;
        this.due = due;
        random = new Random(run);
        weights = TEMPERS[run % TEMPERS.length];
        purpose = run / TEMPERS.length % 5 * 20;
    }

    private int below(int bound, int oddOneIn) {
        if (bound <= 0 || random.nextInt(oddOneIn) == 0) {
            return random.nextBoolean() ? bound : ODD[random.nextInt(ODD.length)];
        }
        return random.nextInt(bound);
    }

    private String name() {
        int all = 0;
        for (int w : weights) {
            all += w;
        }
        int left = random.nextInt(all);
        int n = 0;
        while (left >= weights[n]) {
            left -= weights[n];
            n++;
        }
        return NAMES[n];
    }

    private Call anyCall() {
        String name = name();
        int station = below(5, 60);
        int day = below(100, 80);
        int index = below(model.row.size(), 60);
        return switch (name) {
            case "cable" ->
                new Call(name, station, below(5, 60), random.nextInt(5) < 3 ? 1 : 0, 0);
            case "write" -> new Call(name, station, below(4, 80), day, below(100, 80));
            case "withdraw" -> new Call(name, station, below(6, 20), 0, 0);
            case "ask" -> new Call(name, station, below(5, 60), 0, 0);
            case "deliver", "lose", "twin" -> new Call(name, index, 0, 0, 0);
            case "letter" -> new Call(name, index, below(4, 20), 0, 0);
            case "entry" -> new Call(name, station, below(16, 40), random.nextInt(2), 0);
            case "about" -> new Call(name, station, below(7, 40), 0, 0);
            case "allowed" -> new Call(name, below(32, 40), 0, 0, 0);
            case "inForce" -> new Call(name, station, below(4, 40), day, 0);
            default -> new Call(name, station, 0, 0, 0);
        };
    }

    /** A call that carries a write on, so that books grow; null if none is found. */
    private Call purposeful() {
        for (int tries = 0; tries < 60; tries++) {
            int s = random.nextInt(5);
            Model.Place p = model.places.get(s);
            Call call;
            if (!model.row.isEmpty() && random.nextInt(3) > 0) {
                int i = random.nextInt(model.row.size());
                boolean alive = isAlive(model.row.get(i).number());
                call = new Call(alive ? "deliver" : "lose", i, 0, 0, 0);
            } else if (p.open != null) {
                int which = random.nextInt(40);
                call = new Call(which > 2 ? "decide" : which > 0 ? "resend" : "giveUp", s, 0, 0, 0);
            } else if (p.doubtNumber != null) {
                call = new Call("ask", s, random.nextInt(5), 0, 0);
            } else if (p.lock != null) {
                if (isAlive(p.lock)) {
                    continue;
                }
                call = new Call("unlock", s, 0, 0, 0);
            } else if (isAnyOpen() && random.nextInt(40) > 0) {
                continue;
            } else if (random.nextInt(3) == 0) {
                call = new Call("withdraw", s, random.nextInt(16), 0, 0);
            } else {
                call = new Call("write", s, random.nextInt(4), random.nextInt(100),
                        random.nextInt(100));
            }
            if (isWorthWhile(call)) {
                return call;
            }
        }
        return null;
    }

    private boolean isAnyOpen() {
        for (Model.Place p : model.places) {
            if (p.open != null) {
                return true;
            }
        }
        return false;
    }

    /** Whether a write is open, or a station in doubt about it. */
    private boolean isAlive(int number) {
        for (Model.Place p : model.places) {
            if (p.open != null && p.open.number == number
                    || p.doubtNumber != null && p.doubtNumber == number) {
                return true;
            }
        }
        return false;
    }

    private boolean isWorthWhile(Call call) {
        try {
            long answer = model.copy().call(call.name, call.a, call.b, call.c, call.d);
            return !call.name.equals("decide") || answer != 0;
        } catch (RuntimeException e) {
            return false;
        }
    }

    private static long real(NoticeStations x, Call call) {
        int a = call.a;
        int b = call.b;
        int c = call.c;
        switch (call.name) {
            case "cable": return x.cable(a, b, c != 0) ? 1 : 0;
            case "write": return x.write(a, b, c, call.d);
            case "withdraw": return x.withdraw(a, b);
            case "decide": return x.decide(a) ? 1 : 0;
            case "giveUp": x.giveUp(a); return 0;
            case "resend": return x.resend(a);
            case "unlock": x.unlock(a); return 0;
            case "ask": x.ask(a, b); return 0;
            case "stop": return x.stop(a) ? 1 : 0;
            case "start": return x.start(a) ? 1 : 0;
            case "letters": return x.letters();
            case "deliver": return x.deliver(a);
            case "lose": x.lose(a); return 0;
            case "twin": x.twin(a); return 0;
            case "letter": return x.letter(a, b);
            case "count": return x.count(a);
            case "entry": return x.entry(a, b, c != 0);
            case "about": return x.about(a, b);
            case "allowed": return x.allowed(a) ? 1 : 0;
            case "inForce": return x.inForce(a, b, c);
            default: throw new AssertionError(call.name);
        }
    }

    private String wanted(Call call) {
        Model trial = model.copy();
        try {
            long answer = trial.call(call.name, call.a, call.b, call.c, call.d);
            model = trial;
            return Long.toString(answer);
        } catch (RuntimeException e) {
            return e.getClass().getSimpleName();
        }
    }

    private String got(Call call) {
        try {
            return Long.toString(real(x, call));
        } catch (RuntimeException e) {
            return e.getClass().getSimpleName();
        }
    }

    /** Whether the run went through as due. */
    private boolean goes() {
        for (int n = 0; n < CALLS; n++) {
            Call purposeful = random.nextInt(100) < purpose ? purposeful() : null;
            Call call = purposeful == null ? anyCall() : purposeful;
            String want = wanted(call);
            String got = got(call);
            told.add(call + " " + got);
            due.is("run " + run + " call " + n + " " + told.get(n), got, want);
            if (!got.equals(want)) {
                return false;
            }
            if (model.isSplit()) {
                due.tell("run " + run + ": different entries at a place after " + told);
                return false;
            }
        }
        return true;
    }

    public static void main(String[] args) {
        Due due = new Due("RandomRunsTest");
        int faults = 0;
        int longest = 0;
        int full = 0;
        for (int run = 0; run < RUNS && faults < 5; run++) {
            RandomRunsTest test = new RandomRunsTest(run, due);
            faults += test.goes() ? 0 : 1;
            for (Model.Place p : test.model.places) {
                longest = Math.max(longest, p.held.book().size());
            }
            full += test.model.row.size() == 40 ? 1 : 0;
        }
        System.out.println("longest book " + longest + ", runs that end with 40 letters " + full);
        due.end();
    }
}
