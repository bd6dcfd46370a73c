import java.util.function.Consumer;

/** Compares what calls answer with what is due, and counts those that differ. */
final class Due {
    private final String test;
    private int asked = 0;
    private int wrong = 0;

    Due(String test) {
        this.test = test;
    }

    void is(String what, long got, long want) {
        asked++;
        if (got != want) {
            tell(what + " answered " + got + ", due is " + want);
        }
    }

    void is(String what, boolean got, boolean want) {
        is(what, got ? 1 : 0, want ? 1 : 0);
    }

    void is(String what, String got, String want) {
        asked++;
        if (!got.equals(want)) {
            tell(what + " answered " + got + ", due is " + want);
        }
    }

    /** The call throws this very exception, and changes nothing; x itself is left alone. */
    void isThrown(String what, Class<? extends RuntimeException> want, Stations x,
            Consumer<Stations> call) {
        changesNothing(what, x, it -> refuse(what, want, it, call));
    }

    private void refuse(String what, Class<? extends RuntimeException> want, Stations x,
            Consumer<Stations> call) {
        asked++;
        try {
            call.accept(x);
            tell(what + " threw nothing, due is " + want.getSimpleName());
        } catch (RuntimeException e) {
            if (e.getClass() != want) {
                tell(what + " threw " + e.getClass().getSimpleName() + ", due is "
                        + want.getSimpleName());
            }
        }
    }

    /** An object that had the call is as one that did not; x itself is left alone. */
    void changesNothing(String what, Stations x, Consumer<Stations> call) {
        isAsIf(what + " (changes nothing)", x, call, it -> { });
    }

    /** The letter has no effect: it is gone, as if it were lost; x itself is left alone. */
    void doesNothing(String what, Stations x, int kind, int from, int to) {
        int i = Post.find(x, kind, from, to);
        isAsIf(what + " (does nothing)", x, it -> is(what, it.deliver(i), kind),
                it -> it.lose(i));
    }

    /** The one call leaves an object as the other does, now and when it is used on. */
    private void isAsIf(String what, Stations x, Consumer<Stations> one,
            Consumer<Stations> other) {
        Stations seen = x.again();
        one.accept(seen);
        Stations seenToo = x.again();
        other.accept(seenToo);
        is(what, Sight.of(seen), Sight.of(seenToo));
        Stations used = x.again();
        one.accept(used);
        Stations usedToo = x.again();
        other.accept(usedToo);
        is(what + ", later", Sight.later(used), Sight.later(usedToo));
    }

    void tell(String fault) {
        wrong++;
        System.out.println(test + ": " + fault);
    }

    void end() {
        System.out.println(test + ": " + asked + " answers, " + wrong + " not as due");
        if (wrong != 0) {
            System.exit(1);
        }
    }
}
