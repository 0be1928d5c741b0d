/** What the tests by hand have in common: small schools to begin with, and short ways to fill and to read a timetable. */
abstract class Schools {
    static final int NONE = Roomandhour.NONE;
    static final int MIN = Integer.MIN_VALUE, MAX = Integer.MAX_VALUE;
    static final Due due = new Due();

    /** One room, and as many lessons of length 1, each with its own class and teacher (at most 4). */
    static Roomandhour oneRoom(int days, int hours, int lessons) {
        Roomandhour x = new Roomandhour();
        x.setGrid(days, hours);
        x.addRoom(30);
        for (int k = 0; k < lessons; k++) {
            x.addLesson(x.addClass(20, NONE), x.addTeacher(), 1);
        }
        return x;
    }

    /** Three rooms with 30 seats, four classes of 20 pupils without a home room, four teachers, no lessons. */
    static Roomandhour wide(int days, int hours) {
        Roomandhour x = new Roomandhour();
        x.setGrid(days, hours);
        for (int k = 0; k < 3; k++) {
            x.addRoom(30);
        }
        for (int k = 0; k < 4; k++) {
            x.addClass(20, NONE);
            x.addTeacher();
        }
        return x;
    }

    /** As wide, with a lesson for each of these lengths; the lesson k has the class and the teacher k (at most 4). */
    static Roomandhour lessons(int days, int hours, int... lengths) {
        Roomandhour x = wide(days, hours);
        for (int k = 0; k < lengths.length; k++) {
            x.addLesson(k, k, lengths[k]);
        }
        return x;
    }

    /** The most of everything: 4 classes, 4 teachers, 3 rooms, 6 lessons, 10 rules, 6 slots, and a good timetable. */
    static Roomandhour full() {
        Roomandhour x = wide(2, 3);
        for (int k = 0; k < 6; k++) {
            x.addLesson(k % 4, k % 4, 1);
        }
        for (int k = 0; k < 10; k++) {
            x.addRule(Roomandhour.AT_MOST, k % 4, 3);
        }
        x.first();
        return x;
    }

    /** Gives the lessons 0, 1, .. these values. */
    static void put(Roomandhour x, int... values) {
        for (int lesson = 0; lesson < values.length; lesson++) {
            x.place(lesson, values[lesson] / 10, values[lesson] % 10);
        }
    }

    static void stands(Roomandhour x, String name, int... values) {
        for (int lesson = 0; lesson < values.length; lesson++) {
            due.is(x.at(lesson), values[lesson], name + ", at(" + lesson + ")");
        }
    }

    /** The values of a lesson that are left. */
    static void leaves(Roomandhour x, String name, int lesson, int... values) {
        due.is(x.left(lesson), values.length, name + ", left(" + lesson + ")");
        for (int k = 0; k < values.length && k < x.left(lesson); k++) {
            due.is(x.leftAt(lesson, k), values[k], name + ", leftAt(" + lesson + ", " + k + ")");
        }
    }

    /** The output that was written last. */
    static String row(Roomandhour x) {
        StringBuilder text = new StringBuilder();
        for (int k = 0; x.outputByte(k) != NONE && k < 20; k++) {
            text.append((char) x.outputByte(k));
        }
        return text.toString();
    }

    static String printed(Roomandhour x, int kind, int number) {
        x.print(kind, number);
        return row(x);
    }

    static long sum(long... numbers) {
        long c = 0;
        for (long n : numbers) {
            c = 31 * c + n;
        }
        return c;
    }
}
