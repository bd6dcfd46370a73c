/** Compares what calls answer with what is due, and counts those that differ. */
final class Due {
    interface Call {
        void make();
    }

    private final String test;
    private int asked = 0;
    private int wrong = 0;

    Due(String test) {
        this.test = test;
    }

    void is(String what, long got, long want) {
        asked++;
        if (got != want) {
            tell(what + " answered " + got + ", due is " + want);
        }
    }

    void is(String what, boolean got, boolean want) {
        is(what, got ? 1 : 0, want ? 1 : 0);
    }

    void is(String what, String got, String want) {
        asked++;
        if (!got.equals(want)) {
            tell(what + " answered " + got + ", due is " + want);
        }
    }

    void isThrown(String what, Class<? extends RuntimeException> want, Call call) {
        asked++;
        try {
            call.make();
            tell(what + " threw nothing, due is " + want.getSimpleName());
        } catch (RuntimeException e) {
            if (e.getClass() != want) {
                tell(what + " threw " + e.getClass().getSimpleName() + ", due is "
                        + want.getSimpleName());
            }
        }
    }

    /** The same, and that the call changed nothing that can be seen. */
    void isThrown(String what, Class<? extends RuntimeException> want, NoticeStations x,
            Call call) {
        String before = Sight.of(x);
        isThrown(what, want, call);
        is(what + " (changes nothing)", Sight.of(x), before);
    }

    void tell(String fault) {
        wrong++;
        System.out.println(test + ": " + fault);
    }

    void end() {
        System.out.println(test + ": " + asked + " answers, " + wrong + " not as due");
        if (wrong != 0) {
            System.exit(1);
        }
    }
}
