import java.util.NoSuchElementException;

/** What the tests of the promises compare with: the answers that are due. */
final class Due {
    interface Call {
        Object run();
    }

    private int wrong = 0;
    private int asked = 0;
    private String promise = "";

    void promise(String name) {
        promise = name;
    }

    int asked() {
        return asked;
    }

    void is(Object got, Object want, String call) {
        asked++;
        if (!got.equals(want)) {
            wrong++;
            System.out.println(promise + ": " + call + " answered " + got + ", due is " + want);
        }
    }

    /** The call throws exactly this, and leaves all that can be asked of the object as it was. */
    void fails(Roomandhour x, Class<? extends RuntimeException> want, Call call, String name) {
        asked++;
        String before = stateOf(x);
        String got;
        try {
            got = "the answer " + call.run();
        } catch (RuntimeException thrown) {
            got = thrown.getClass().getName();
        }
        if (!got.equals(want.getName())) {
            wrong++;
            System.out.println(promise + ": " + name + " gave " + got + ", due is " + want.getName());
        }
        String after = stateOf(x);
        if (!before.equals(after)) {
            wrong++;
            System.out.println(promise + ": " + name + " changed " + before + " to " + after);
        }
    }

    /** The call changes nothing that can be asked of the object. */
    void keeps(Roomandhour x, Call call, Object want, String name) {
        String before = stateOf(x);
        is(call.run(), want, name);
        is(stateOf(x), before, "the state behind " + name);
    }

    void noIndex(Roomandhour x, Call call, String name) {
        fails(x, IndexOutOfBoundsException.class, call, name);
    }

    void noArgument(Roomandhour x, Call call, String name) {
        fails(x, IllegalArgumentException.class, call, name);
    }

    void noState(Roomandhour x, Call call, String name) {
        fails(x, IllegalStateException.class, call, name);
    }

    void noElement(Roomandhour x, Call call, String name) {
        fails(x, NoSuchElementException.class, call, name);
    }

    /** All that the calls tell that change nothing. */
    static String stateOf(Roomandhour x) {
        StringBuilder text = new StringBuilder();
        for (int what = 0; what < 6; what++) {
            text.append(x.count(what)).append(' ');
        }
        text.append("sum ").append(x.checksum());
        for (int k = 0; k < 8; k++) {
            text.append(' ').append(x.outputByte(k));
        }
        for (int lesson = 0; lesson < x.count(3); lesson++) {
            text.append(" left ").append(x.left(lesson));
        }
        for (int rule = 0; rule < x.count(4); rule++) {
            text.append(" needed ").append(x.isNeeded(rule));
        }
        text.append(" bound ").append(x.bound()).append(" core ").append(x.core()).append(" cores ").append(x.cores());
        try {
            text.append(" weight ").append(x.weight()).append(" faults ").append(x.groundFaults());
            text.append(" broken ").append(x.broken()).append(" used ").append(x.usedShare()).append(" mean ").append(x.meanHour());
        } catch (IllegalStateException noTimetable) {
            text.append(" no timetable");
        }
        return text.toString();
    }

    void end() {
        System.out.println(asked + " answers asked, " + wrong + " wrong");
        if (wrong > 0) {
            System.exit(1);
        }
    }
}
