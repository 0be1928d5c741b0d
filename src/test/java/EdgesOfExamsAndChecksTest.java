import java.math.BigInteger;

/** The boundary cases of promises 36 to 42, and of section 6. */
public final class EdgesOfExamsAndChecksTest extends Schools {
    private static final String CONFLICT = "Two lessons conflict if they have the same class or the same teacher.";
    private static final String FEWEST = "so that no two lessons that conflict are on one day, on as few days as possible";
    private static final String SMALLEST = "of several ways the one is taken whose row of days, by the numbers of the lessons, is the smallest in lexicographic order";
    private static final String NO_SET = "IllegalArgumentException if it has others than lessons";

    public static void main(String[] args) throws Exception {
        Edges.run(EdgesOfExamsAndChecksTest.class, Edges.promises(36, 42, "Section 6"));
    }

    /** Lessons with these classes and teachers. */
    private static Roomandhour exams(int[] classes, int[] teachers) {
        Roomandhour x = wide(2, 3);
        for (int k = 0; k < classes.length; k++) {
            x.addLesson(classes[k], teachers[k], 1 + k % 2);
        }
        return x;
    }

    private static void days(Roomandhour x, int set, int number, int... days) {
        due.is(x.examDays(set), number, "examDays(" + set + ")");
        int k = 0;
        for (int lesson = 0; lesson < 6; lesson++) {
            int one = lesson;
            if (lesson < x.count(3) && (set >> lesson & 1) == 1) {
                due.is(x.examDay(set, lesson), days[k], "examDay(" + set + ", " + lesson + ")");
                k++;
            } else if (lesson < x.count(3)) {
                due.noArgument(x, () -> x.examDay(set, one), "examDay(" + set + ", " + lesson + ")");
            } else {
                due.noIndex(x, () -> x.examDay(set, one), "examDay(" + set + ", " + lesson + ")");
            }
        }
    }

    // ---- examDays and examDay

    @Edge(of = "Promise 36", says = "0 for the empty set")
    static void theEmptySet() {
        due.is(new Roomandhour().examDays(0), 0, "examDays(0) of a new school");
        days(full(), 0, 0);
        days(oneRoom(1, 1, 1), 0, 0);
    }

    @Edge(of = "Promise 36", says = NO_SET)
    static void othersThanLessons() {
        Roomandhour x = wide(2, 3);
        for (int lessons = 0; lessons <= 6; lessons++) {
            int all = (1 << lessons) - 1;
            due.is(x.examDays(all) <= lessons, true, "examDays(" + all + ") of all " + lessons + " lessons");
            for (int bad : new int[] {all + 1, all + 2, 2 * all + 1, 64, 1 << 30, MIN, MAX, -1, -all - 1, -64}) {
                if (bad != all && bad != 0) {
                    due.noArgument(x, () -> x.examDays(bad), "examDays(" + bad + ") of " + lessons + " lessons");
                }
            }
            if (lessons < 6) {
                x.addLesson(lessons % 4, lessons % 4, 1);
            }
        }
    }

    @Edge(of = "Promise 37", says = "IndexOutOfBoundsException if there is no such lesson")
    static void examOfNoLesson() {
        Roomandhour x = exams(new int[] {0, 1, 2}, new int[] {0, 1, 2});
        for (int bad : new int[] {-1, 3, 6, 32, -32, MIN, MAX}) {
            due.noIndex(x, () -> x.examDay(7, bad), "examDay(7, " + bad + ")");
            due.noIndex(x, () -> x.examDay(0, bad), "examDay(0, " + bad + ")");
            due.noIndex(x, () -> x.examDay(8, bad), "examDay(8, " + bad + ")");
        }
        Roomandhour e = new Roomandhour();
        due.noIndex(e, () -> e.examDay(0, 0), "examDay(0, 0) without lessons");
    }

    @Edge(of = "Promise 37", says = "IllegalArgumentException if lessons has others than lessons, or lesson is not in it")
    static void aLessonOutsideTheSet() {
        Roomandhour x = exams(new int[] {0, 1, 2}, new int[] {0, 1, 2});
        for (int lesson = 0; lesson < 3; lesson++) {
            int one = lesson;
            due.noArgument(x, () -> x.examDay(0, one), "examDay(0, " + lesson + ")");
            due.noArgument(x, () -> x.examDay(7 & ~(1 << one), one), "examDay(all others, " + lesson + ")");
            due.noArgument(x, () -> x.examDay(8 + (1 << one), one), "examDay(one that is not there too, " + lesson + ")");
            due.noArgument(x, () -> x.examDay(15, one), "examDay(15, " + lesson + ")");
            due.noArgument(x, () -> x.examDay(-1, one), "examDay(-1, " + lesson + ")");
            due.noArgument(x, () -> x.examDay(MIN + (1 << one), one), "examDay(MIN and the lesson, " + lesson + ")");
            due.is(x.examDay(1 << lesson, lesson), 0, "examDay(the lesson alone, " + lesson + ")");
        }
    }

    @Edge(of = "Section 6", says = CONFLICT)
    static void classTeacherBothAndNeither() {
        Roomandhour x = exams(new int[] {0, 0, 1, 0, 1}, new int[] {0, 1, 0, 0, 1});
        days(x, 0b00011, 2, 0, 1);
        days(x, 0b00101, 2, 0, 1);
        days(x, 0b01001, 2, 0, 1);
        days(x, 0b10001, 1, 0, 0);
        days(x, 0b00110, 1, 0, 0);
    }

    @Edge(of = "Section 6", says = "on days, numbered from 0")
    static void eachLessonByItself() {
        Roomandhour x = full();
        for (int lesson = 0; lesson < 6; lesson++) {
            days(x, 1 << lesson, 1, 0);
        }
    }

    @Edge(of = "Section 6", says = FEWEST)
    static void allLessonsConflict() {
        Roomandhour x = exams(new int[] {0, 0, 0, 0, 0, 0}, new int[] {0, 1, 2, 3, 0, 1});
        days(x, 63, 6, 0, 1, 2, 3, 4, 5);
        days(x, 0b110101, 4, 0, 1, 2, 3);
        Roomandhour y = exams(new int[] {0, 1, 2, 3, 0, 1}, new int[] {2, 2, 2, 2, 2, 2});
        days(y, 63, 6, 0, 1, 2, 3, 4, 5);
    }

    @Edge(of = "Section 6", says = FEWEST)
    static void noLessonsConflict() {
        Roomandhour x = lessons(1, 1, 1, 1, 1, 1);
        days(x, 15, 1, 0, 0, 0, 0);
    }

    @Edge(of = "Section 6", says = FEWEST)
    static void daysOfExamsAreNotThoseOfTheGrid() {
        Roomandhour x = exams(new int[] {0, 0, 0}, new int[] {0, 1, 2});
        x.setGrid(1, 1);
        days(x, 7, 3, 0, 1, 2);
        due.is(x.first(), false, "first(): one slot");
    }

    @Edge(of = "Section 6", says = FEWEST)
    static void aRingOfConflicts() {
        // 0 and 1 have a class, 1 and 2 a teacher, 2 and 3 a class, 3 and 0 a teacher: two days are enough.
        Roomandhour x = exams(new int[] {0, 0, 1, 1}, new int[] {0, 1, 1, 0});
        days(x, 15, 2, 0, 1, 0, 1);
        // 0 and 1 a class, 1 and 2 a teacher, 2 and 0 neither, but 3 conflicts with all of them.
        Roomandhour y = exams(new int[] {0, 0, 1, 0}, new int[] {0, 1, 1, 1});
        days(y, 7, 2, 0, 1, 0);
        days(y, 15, 3, 0, 1, 0, 2);
    }

    @Edge(of = "Section 6", says = SMALLEST)
    static void notTheFirstFreeDayByTurns() {
        // A path 0 - 2 - 3 - 1: if 0 and 1 were both on the day 0, a third day would be needed.
        Roomandhour x = exams(new int[] {0, 1, 0, 1}, new int[] {0, 1, 2, 2});
        days(x, 15, 2, 0, 1, 1, 0);
        days(x, 0b0111, 2, 0, 0, 1);
    }

    @Edge(of = "Section 6", says = SMALLEST)
    static void theSmallestRowOfDays() {
        // Three of a class need three days; the last one has no conflict, and is on the first day.
        Roomandhour x = exams(new int[] {0, 0, 0, 1}, new int[] {0, 1, 2, 3});
        days(x, 15, 3, 0, 1, 2, 0);
        days(x, 0b1110, 2, 0, 1, 0);
    }

    // ---- count

    @Edge(of = "Promise 38", says = "0 classes, 1 teachers, 2 rooms, 3 lessons, 4 rules, 5 slots")
    static void countsOfAnEmptyAndAFullSchool() {
        int[] empty = {0, 0, 0, 0, 0, 6};
        int[] most = {4, 4, 3, 6, 10, 6};
        Roomandhour e = new Roomandhour();
        Roomandhour x = full();
        for (int what = 0; what < 6; what++) {
            due.is(e.count(what), empty[what], "count(" + what + ") of a new school");
            due.is(x.count(what), most[what], "count(" + what + ") of a full school");
        }
        e.setGrid(1, 1);
        due.is(e.count(5), 1, "count(5) of the smallest grid");
    }

    @Edge(of = "Promise 38", says = "0 classes, 1 teachers, 2 rooms, 3 lessons, 4 rules, 5 slots")
    static void eachCountByItself() {
        Roomandhour x = new Roomandhour();
        x.addTeacher();
        counts(x, 0, 1, 0, 0, 0, 6);
        x.addRoom(9);
        counts(x, 0, 1, 1, 0, 0, 6);
        x.addClass(9, 0);
        counts(x, 1, 1, 1, 0, 0, 6);
        x.addLesson(0, 0, 1);
        counts(x, 1, 1, 1, 1, 0, 6);
        x.addRule(Roomandhour.FREE, 0, 5);
        counts(x, 1, 1, 1, 1, 1, 6);
        x.dropRule(0);
        counts(x, 1, 1, 1, 1, 0, 6);
        x.setGrid(1, 2);
        counts(x, 1, 1, 1, 1, 0, 2);
    }

    private static void counts(Roomandhour x, int... numbers) {
        for (int what = 0; what < 6; what++) {
            due.is(x.count(what), numbers[what], "count(" + what + ")");
        }
    }

    @Edge(of = "Promise 38", says = "Throws IllegalArgumentException see section 1")
    static void noSuchCount() {
        Roomandhour x = new Roomandhour();
        for (int bad : new int[] {-1, 6, 7, MIN, MAX}) {
            due.noArgument(x, () -> x.count(bad), "count(" + bad + ")");
        }
    }

    // ---- checksum

    /** As the document tells, with numbers that do not wrap, and wrapped at the end. */
    private static long wrapped(int... numbers) {
        BigInteger c = BigInteger.ZERO;
        for (int n : numbers) {
            c = c.multiply(BigInteger.valueOf(31)).add(BigInteger.valueOf(n));
        }
        return c.longValue();
    }

    @Edge(of = "Promise 39", says = "Returns c, which is 0 at first")
    static void checksumOfNothing() {
        Roomandhour x = new Roomandhour();
        due.is(x.checksum(), 0L, "checksum() of a new school");
        x.first();
        due.is(x.checksum(), 0L, "checksum() of the timetable without lessons");
        Roomandhour y = wide(1, 1);
        due.is(y.checksum(), 0L, "checksum() without rules and lessons");
        Roomandhour z = oneRoom(1, 1, 1);
        z.first();
        due.is(z.checksum(), 0L, "checksum() of one lesson with the value 0");
    }

    @Edge(of = "Promise 39", says = "(NONE without one)")
    static void checksumWithoutATimetable() {
        Roomandhour x = lessons(2, 3, 1);
        due.is(x.checksum(), -1L, "checksum() of one lesson");
        x.addLesson(1, 1, 1);
        due.is(x.checksum(), -32L, "checksum() of two lessons");
        x.addRule(Roomandhour.FREE, 1, 5);
        due.is(x.checksum(), wrapped(7, 1, 5, -1, -1), "checksum() with a rule");
        x.first();
        due.is(x.checksum(), wrapped(7, 1, 5, 0, 1), "checksum() with a timetable");
    }

    @Edge(of = "Promise 39", says = "31 * c + n (as longs that wrap)")
    static void checksumThatWraps() {
        Roomandhour x = wide(2, 3);
        for (int k = 0; k < 6; k++) {
            x.addLesson(k % 4, k % 4, 1);
        }
        int[] numbers = new int[36];
        for (int k = 0; k < 10; k++) {
            int kind = k % 2 == 0 ? Roomandhour.FREE : Roomandhour.IN_ROOM;
            int b = k % 2 == 0 ? 5 : 2;
            x.addRule(kind, 3, b);
            numbers[3 * k] = kind;
            numbers[3 * k + 1] = 3;
            numbers[3 * k + 2] = b;
        }
        for (int k = 0; k < 6; k++) {
            numbers[30 + k] = NONE;
        }
        due.is(x.checksum(), wrapped(numbers), "checksum() of a full school without a timetable");
        for (int k = 0; k < 6; k++) {
            x.place(k, 5, 2);
            numbers[30 + k] = 52;
        }
        due.is(x.checksum(), wrapped(numbers), "checksum() of a full school");
        boolean below = false;
        boolean above = false;
        for (int k = 0; k < 6; k++) {
            for (int slot = 0; slot < 6; slot++) {
                x.place(k, slot, 1);
                numbers[30 + k] = 10 * slot + 1;
                long sum = x.checksum();
                below |= sum < 0;
                above |= sum > Integer.MAX_VALUE;
                due.is(sum, wrapped(numbers), "checksum() with the lesson " + k + " in the slot " + slot);
            }
        }
        due.is(below || above, true, "the checksums are no ints");
    }

    @Edge(of = "Promise 39", says = "for each rule its kind, a and b; for each lesson 10 * slot + room in the present timetable")
    static void checksumOfRulesAndLessons() {
        Roomandhour x = lessons(2, 3, 1, 1);
        x.addRule(Roomandhour.NEAR, 1, 0);
        due.is(x.checksum(), wrapped(5, 1, 0, -1, -1), "checksum() of a rule");
        x.addRule(Roomandhour.NOT_THEN, 0, 0);
        due.is(x.checksum(), wrapped(5, 1, 0, 0, 0, 0, -1, -1), "checksum() of two rules");
        put(x, 52, 0);
        due.is(x.checksum(), wrapped(5, 1, 0, 0, 0, 0, 52, 0), "checksum() of two rules and a timetable");
        x.dropRule(0);
        due.is(x.checksum(), wrapped(0, 0, 0, 52, 0), "checksum() behind dropRule");
    }

    // ---- meanHour and usedShare

    @Edge(of = "Promise 40", says = "0.0 without lessons")
    static void meanHourWithoutLessons() {
        Roomandhour x = new Roomandhour();
        x.first();
        due.is(x.meanHour(), 0.0, "meanHour()");
    }

    @Edge(of = "Promise 40", says = "IllegalStateException if there is no timetable")
    static void meanHourWithoutATimetable() {
        Roomandhour e = new Roomandhour();
        due.noState(e, () -> e.meanHour(), "meanHour() without lessons and timetable");
        Roomandhour x = oneRoom(1, 1, 1);
        due.noState(x, () -> x.meanHour(), "meanHour() with a lesson, but without a timetable");
    }

    @Edge(of = "Promise 40", says = "the sum of the hours (not slots) in which the lessons of the present timetable begin")
    static void leastAndGreatestMeanHour() {
        for (int hours = 1; hours <= 3; hours++) {
            Roomandhour x = wide(2, hours);
            for (int k = 0; k < 6; k++) {
                x.addLesson(k % 4, k % 4, 2);
            }
            for (int hour = 0; hour < hours; hour++) {
                for (int k = 0; k < 6; k++) {
                    x.place(k, hour + k % 2 * hours, 0);
                }
                due.is(x.meanHour(), (double) hour, "meanHour() of six lessons of two slots that begin in the hour " + hour);
            }
        }
    }

    @Edge(of = "Promise 40", says = "converted to double, divided by their number, converted to double")
    static void meanHourThatIsNotWhole() {
        Roomandhour x = wide(1, 3);
        for (int k = 1; k <= 6; k++) {
            x.addLesson(k % 4, k % 4, 1);
            x.place(0, 1, 0);
            due.is(x.meanHour(), 1.0 / k, "meanHour() of one lesson in the hour 1, and " + (k - 1) + " in the hour 0");
            x.place(k - 1, 2, 0);
            due.is(x.meanHour(), (k == 1 ? 2.0 : 3.0) / k, "meanHour() of " + k + " lessons, one in the hour 2");
        }
    }

    @Edge(of = "Promise 41", says = "0.0f without rooms")
    static void usedShareWithoutRooms() {
        Roomandhour x = new Roomandhour();
        x.first();
        due.is(x.usedShare(), 0.0f, "usedShare() without rooms");
        x.addRoom(9);
        due.is(x.usedShare(), 0.0f, "usedShare() without lessons");
    }

    @Edge(of = "Promise 41", says = "IllegalStateException if there is no timetable")
    static void usedShareWithoutATimetable() {
        Roomandhour e = new Roomandhour();
        due.noState(e, () -> e.usedShare(), "usedShare() without rooms and timetable");
        Roomandhour x = oneRoom(1, 1, 1);
        due.noState(x, () -> x.usedShare(), "usedShare() with a room, but without a timetable");
    }

    @Edge(of = "Promise 41", says = "Returns how much of the rooms is used.")
    static void allIsUsed() {
        Roomandhour x = oneRoom(1, 1, 1);
        x.first();
        due.is(x.usedShare(), 1.0f, "usedShare() of one slot and one room");
        Roomandhour y = new Roomandhour();
        y.addRoom(9);
        y.addRoom(9);
        y.addClass(9, NONE);
        y.addTeacher();
        for (int k = 0; k < 6; k++) {
            y.addLesson(0, 0, 2);
        }
        put(y, 0, 20, 40, 1, 21, 41);
        due.is(y.usedShare(), 1.0f, "usedShare() of six lessons of two slots in two rooms, over the end of a day too");
        put(y, 0, 20, 40, 1, 21, 51);
        due.is(y.usedShare(), 11.0f / 12.0f, "usedShare() with one of them in the last slot of all");
        y.addRoom(9);
        due.is(y.usedShare(), 11.0f / 18.0f, "usedShare() with another room");
    }

    @Edge(of = "Promise 41", says = "the number of pairs of a room and a slot that some lesson of the present timetable covers")
    static void aPairCountsOnce() {
        Roomandhour x = full();
        put(x, 0, 0, 0, 0, 0, 0);
        due.is(x.usedShare(), 1.0f / 18.0f, "usedShare() of six lessons in one pair");
        put(x, 0, 1, 2, 0, 0, 0);
        due.is(x.usedShare(), 3.0f / 18.0f, "usedShare() of six lessons in one slot of three rooms");
        put(x, 0, 11, 22, 30, 41, 52);
        due.is(x.usedShare(), 6.0f / 18.0f, "usedShare() of six pairs");
    }

    @Edge(of = "Promise 41", says = "converted to float, divided by the number of all such pairs, converted to float")
    static void usedShareOfEachGrid() {
        for (int days = 1; days <= 2; days++) {
            for (int hours = 1; hours <= 3; hours++) {
                for (int rooms = 1; rooms <= 3; rooms++) {
                    Roomandhour x = oneRoom(days, hours, 1);
                    for (int k = 1; k < rooms; k++) {
                        x.addRoom(1);
                    }
                    x.first();
                    due.is(x.usedShare(), 1.0f / (float) (days * hours * rooms), "usedShare() of one of " + days * hours * rooms);
                }
            }
        }
    }

    // ---- errors

    @Edge(of = "Promise 42", says = "Returns the number; always 0.")
    static void errorsOfAnEmptyAndAFullSchool() {
        Roomandhour e = new Roomandhour();
        due.keeps(e, () -> e.errors(), 0, "errors() of a new school");
        e.first();
        due.keeps(e, () -> e.errors(), 0, "errors() with the timetable without lessons");
        Roomandhour x = full();
        due.keeps(x, () -> x.errors(), 0, "errors() of a full school");
    }

    @Edge(of = "Promise 42", says = "if they are at most 3000, without changing anything; otherwise nothing is counted")
    static void fewAndManyTimetables() {
        // 18 values for each lesson of one slot: 18, 324, 5832 and 104976 timetables.
        for (int[] lengths : new int[][] {{1}, {1, 1}, {1, 1, 1}, {1, 1, 1, 1}}) {
            Roomandhour x = lessons(2, 3, lengths);
            due.keeps(x, () -> x.errors(), 0, "errors() with " + lengths.length + " lessons");
            x.first();
            due.keeps(x, () -> x.errors(), 0, "errors() with " + lengths.length + " lessons and a timetable");
        }
    }

    @Edge(of = "Promise 42", says = "without changing anything")
    static void errorsChangeNothing() {
        Roomandhour x = oneRoom(2, 3, 3);
        due.keeps(x, () -> x.errors(), 0, "errors() without a timetable");
        due.noState(x, () -> x.at(0), "at(0) behind it");
        put(x, 50, 50, 20);
        x.image();
        x.print(0, 0);
        due.keeps(x, () -> x.errors(), 0, "errors() with a timetable that is not good");
        stands(x, "it stays", 50, 50, 20);
        put(x, 50, 40, 30);
        due.keeps(x, () -> x.errors(), 0, "errors() with a good timetable that is not the smallest one");
        stands(x, "it stays", 50, 40, 30);
        due.is(x.restore(), 2, "restore(): the image stays");
        due.is(row(x), "...|..0", "the output stays");
    }

    @Edge(of = "Promise 42", says = "1 if none is good, and the set of core() can be kept by one of them, or core() is NONE")
    static void errorsWhereNoneIsGood() {
        Roomandhour x = oneRoom(1, 1, 2);
        due.keeps(x, () -> x.errors(), 0, "errors() where the ground rules cannot be kept");
        Roomandhour y = oneRoom(1, 1, 1);
        y.addRule(Roomandhour.FREE, 0, 0);
        due.keeps(y, () -> y.errors(), 0, "errors() where a rule cannot be kept");
        Roomandhour z = new Roomandhour();
        z.addLesson(z.addClass(9, NONE), z.addTeacher(), 1);
        due.keeps(z, () -> z.errors(), 0, "errors() without rooms");
    }
}
