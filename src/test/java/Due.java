/** What is due of calls, and how many answers were not as due. */
final class Due {
    static final Class<IndexOutOfBoundsException> INDEX = IndexOutOfBoundsException.class;
    static final Class<IllegalStateException> TURN = IllegalStateException.class;
    static final Class<IllegalArgumentException> RANGE = IllegalArgumentException.class;
    static final Class<UnsupportedOperationException> MEANING = UnsupportedOperationException.class;

    static final long NONE_MET = Long.MIN_VALUE;

    interface Call {
        long answer();
    }

    interface Fraction {
        long part(int part);
    }

    interface Deed {
        void run();
    }

    private int checks;
    private int wrong;

    void answers(String what, long want, Call call) {
        checks++;
        try {
            long got = call.answer();
            if (got != want) {
                tell(what + " answered " + got + ", due is " + want);
            }
        } catch (RuntimeException thrown) {
            tell(what + " threw " + thrown + ", due is " + want);
        }
    }

    void fraction(String what, long upper, long lower, Fraction fraction) {
        answers(what + ", part 0", upper, () -> fraction.part(0));
        answers(what + ", part 1", lower, () -> fraction.part(1));
    }

    void refuses(String what, Class<? extends RuntimeException> kind, Deed deed) {
        checks++;
        try {
            deed.run();
            tell(what + " threw nothing, due is " + kind.getSimpleName());
        } catch (RuntimeException thrown) {
            // The very class: a subclass would be one that the machine has thrown.
            if (thrown.getClass() != kind) {
                tell(what + " threw " + thrown + ", due is " + kind.getSimpleName());
            }
        }
    }

    void takes(String what, Deed deed) {
        checks++;
        try {
            deed.run();
        } catch (RuntimeException thrown) {
            tell(what + " threw " + thrown + ", due is that it is taken");
        }
    }

    void holds(String what, boolean so) {
        checks++;
        if (!so) {
            tell(what + " does not hold");
        }
    }

    void end() {
        System.out.println(checks + " checks, " + wrong + " not as due");
        if (wrong != 0 || checks == 0) {
            System.exit(1);
        }
    }

    private void tell(String text) {
        wrong++;
        System.out.println(text);
    }

    /** An object with rows, told as strain and force by turns. */
    static StrainRows rows(int... strainsAndForces) {
        StrainRows made = new StrainRows();
        addRows(made, strainsAndForces);
        return made;
    }

    static void addRows(StrainRows object, int... strainsAndForces) {
        for (int i = 0; i < strainsAndForces.length; i += 2) {
            object.row(strainsAndForces[i], strainsAndForces[i + 1]);
        }
    }

    /** An object with table rows, told as x and y by turns. */
    static StrainRows table(int... xsAndYs) {
        StrainRows made = new StrainRows();
        for (int i = 0; i < xsAndYs.length; i += 2) {
            made.table(xsAndYs[i], xsAndYs[i + 1]);
        }
        return made;
    }

    /** An object with impacts, told as degrees and joules by turns. */
    static StrainRows impacts(int... degreesAndJoules) {
        StrainRows made = new StrainRows();
        for (int i = 0; i < degreesAndJoules.length; i += 2) {
            made.impact(degreesAndJoules[i], degreesAndJoules[i + 1]);
        }
        return made;
    }
}
