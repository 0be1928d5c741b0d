/** The boundary cases of promises 1 to 8, and of the sentences in section 1 that they rest on. */
public final class EdgesOfSchoolTest extends Schools {
    private static final int[] OUT_OF_1_OR_2 = {0, 3, -1, -2, MIN, MAX};
    private static final int[] OUT_OF_1_TO_99 = {0, 100, -1, -99, 101, MIN, MAX};

    public static void main(String[] args) throws Exception {
        Edges.run(EdgesOfSchoolTest.class, Edges.promises(1, 8, "What it is", "Section 1", "Section 2"));
    }

    // ---- the constants, the length of a run

    @Edge(of = "Section 6", says = "NONE = -1: There is none.")
    static void none() {
        due.is(Roomandhour.NONE, -1, "NONE");
    }

    @Edge(of = "Section 6", says = "NOT_THEN = 0, AT_MOST = 1, TOGETHER = 2, APART = 3, AHEAD = 4, NEAR = 5, IN_ROOM = 6, FREE = 7")
    static void kinds() {
        int[] kinds = {Roomandhour.NOT_THEN, Roomandhour.AT_MOST, Roomandhour.TOGETHER, Roomandhour.APART, Roomandhour.AHEAD,
            Roomandhour.NEAR, Roomandhour.IN_ROOM, Roomandhour.FREE};
        for (int k = 0; k < kinds.length; k++) {
            due.is(kinds[k], k, "the constant " + k);
        }
    }

    @Edge(of = "What it is", says = "An object is used for at most 512 calls after it has been made")
    static void theLastCallsOfARun() {
        Roomandhour x = new Roomandhour();
        x.addRoom(30);
        x.addClass(20, 0);
        x.addTeacher();
        x.addLesson(0, 0, 1);
        // 4 calls behind, 508 to go: rules that come and go, and timetables between them.
        for (int k = 0; k < 126; k++) {
            due.is(x.addRule(Roomandhour.NOT_THEN, 0, k % 6), 0, "addRule of the round " + k);
            due.is(x.first(), true, "first() of the round " + k);
            due.is(x.at(0), k % 6 == 0 ? 10 : 0, "at(0) of the round " + k);
            due.is(x.dropRule(0), 0, "dropRule of the round " + k);
        }
        due.is(x.cores(), 0, "cores(), the call 509");
        due.is(x.left(0), 6, "left(0), the call 510");
        due.is(x.next(), true, "next(), the call 511");
        // The round 125 barred the slot 5, so that the lesson was in the slot 0.
        due.is(x.at(0), 10, "at(0), the call 512");
    }

    // ---- a new object

    @Edge(of = "Promise 1", says = "Creates a school with 2 days of 3 hours")
    static void newGrid() {
        Roomandhour x = new Roomandhour();
        due.is(x.count(5), 6, "count(5)");
        x.addTeacher();
        x.first();
        due.is(printed(x, 1, 0), "...|...", "the row of a teacher");
        due.is(x.against(0, 1), NONE, "against(0, 1): there is a second day");
        due.noIndex(x, () -> x.against(0, 2), "against(0, 2): there is no third day");
    }

    @Edge(of = "Section 1", says = "at first 2 days with 3 hours")
    static void gridAtFirst() {
        Roomandhour x = new Roomandhour();
        x.addRoom(30);
        x.addLesson(x.addClass(30, NONE), x.addTeacher(), 2);
        leaves(x, "a lesson of two slots", 0, 0, 10, 30, 40);
    }

    @Edge(of = "Promise 1", says = "and nothing else")
    static void nothingElse() {
        Roomandhour x = new Roomandhour();
        for (int what = 0; what < 5; what++) {
            due.is(x.count(what), 0, "count(" + what + ")");
        }
        due.noIndex(x, () -> x.addClass(1, 0), "addClass(1, 0): no room");
        due.noIndex(x, () -> x.addLesson(0, 0, 1), "addLesson(0, 0, 1): no class, no teacher");
        due.noIndex(x, () -> x.share(0), "share(0): no teacher");
        due.noIndex(x, () -> x.at(0), "at(0): no lesson");
        due.noIndex(x, () -> x.place(0, 0, 0), "place(0, 0, 0): no lesson");
        due.noIndex(x, () -> x.dropRule(0), "dropRule(0): no rule");
        for (int kind = 0; kind < 8; kind++) {
            int k = kind;
            due.noArgument(x, () -> x.addRule(k, 0, 0), "addRule(" + kind + ", 0, 0): nothing to name");
        }
        due.is(x.checksum(), 0L, "checksum()");
    }

    @Edge(of = "Promise 1", says = "and nothing else")
    static void noTimetableNoImageNoOutput() {
        Roomandhour x = new Roomandhour();
        due.noState(x, () -> x.next(), "next(): no timetable");
        due.noState(x, () -> x.weight(), "weight(): no timetable");
        due.noState(x, () -> x.image(), "image(): no timetable");
        due.noState(x, () -> x.restore(), "restore(): no image");
        due.is(x.outputByte(0), NONE, "outputByte(0): no output");
    }

    // ---- setGrid

    @Edge(of = "Promise 2", says = "days: 1 or 2")
    static void days() {
        for (int hours = 1; hours <= 3; hours++) {
            int h = hours;
            Roomandhour x = oneRoom(2, 3, 1);
            for (int bad : OUT_OF_1_OR_2) {
                due.noArgument(x, () -> x.setGrid(bad, h), "setGrid(" + bad + ", " + h + ")");
            }
            due.is(x.setGrid(1, h), h, "setGrid(1, " + h + ")");
            due.is(x.setGrid(2, h), 2 * h, "setGrid(2, " + h + ")");
        }
    }

    @Edge(of = "Promise 2", says = "hours: 1 to 3")
    static void hours() {
        for (int days = 1; days <= 2; days++) {
            int d = days;
            Roomandhour x = oneRoom(2, 3, 1);
            for (int bad : new int[] {0, 4, -1, -3, MIN, MAX}) {
                due.noArgument(x, () -> x.setGrid(d, bad), "setGrid(" + d + ", " + bad + ")");
            }
            for (int hours = 1; hours <= 3; hours++) {
                due.is(x.setGrid(d, hours), d * hours, "setGrid(" + d + ", " + hours + ")");
            }
        }
    }

    @Edge(of = "Section 1", says = "There are 1 or 2 days with 1 to 3 hours each")
    static void bothOutOfRange() {
        Roomandhour x = oneRoom(2, 3, 1);
        due.noArgument(x, () -> x.setGrid(0, 0), "setGrid(0, 0)");
        due.noArgument(x, () -> x.setGrid(3, 4), "setGrid(3, 4)");
        due.noArgument(x, () -> x.setGrid(3, 2), "setGrid(3, 2): six slots, but three days");
        due.noArgument(x, () -> x.setGrid(1, 6), "setGrid(1, 6): six slots, but six hours");
        due.noArgument(x, () -> x.setGrid(-2, -3), "setGrid(-2, -3): the product is 6");
        due.noArgument(x, () -> x.setGrid(1 << 16, 1 << 16), "setGrid(65536, 65536): the product wraps around");
    }

    @Edge(of = "Promise 2", says = "Returns the number of slots.")
    static void slotsOfEachGrid() {
        Roomandhour x = oneRoom(2, 3, 1);
        for (int days = 1; days <= 2; days++) {
            for (int hours = 1; hours <= 3; hours++) {
                due.is(x.setGrid(days, hours), days * hours, "setGrid(" + days + ", " + hours + ")");
                due.is(x.count(5), days * hours, "count(5)");
                due.is(x.left(0), days * hours, "left(0)");
            }
        }
    }

    @Edge(of = "Promise 2", says = "there is no timetable then")
    static void noTimetableInANewGrid() {
        for (int days = 1; days <= 2; days++) {
            for (int hours = 1; hours <= 3; hours++) {
                Roomandhour x = oneRoom(2, 3, 1);
                x.first();
                x.setGrid(days, hours);
                due.noState(x, () -> x.at(0), "at(0) behind setGrid(" + days + ", " + hours + ")");
                due.is(x.checksum(), -1L, "checksum() behind setGrid(" + days + ", " + hours + ")");
            }
        }
    }

    @Edge(of = "Promise 2", says = "there is no timetable then")
    static void noTimetableWithoutLessonsEither() {
        Roomandhour x = new Roomandhour();
        x.first();
        due.is(x.weight(), 0, "weight() of the timetable without lessons");
        x.setGrid(1, 1);
        due.noState(x, () -> x.weight(), "weight() behind setGrid");
    }

    @Edge(of = "Promise 2", says = "IllegalStateException if there are rules that name a slot")
    static void rulesThatNameASlot() {
        for (int kind = 0; kind < 8; kind++) {
            Roomandhour x = oneRoom(2, 3, 2);
            x.addRule(kind, 0, kind >= 2 && kind <= 5 ? 1 : 0);
            x.first();
            if (kind == Roomandhour.NOT_THEN || kind == Roomandhour.FREE) {
                due.noState(x, () -> x.setGrid(2, 3), "setGrid(2, 3) with a rule of the kind " + kind);
                due.noState(x, () -> x.setGrid(1, 1), "setGrid(1, 1) with a rule of the kind " + kind);
            } else {
                due.is(x.setGrid(1, 1), 1, "setGrid(1, 1) with a rule of the kind " + kind);
            }
        }
    }

    @Edge(of = "Promise 2", says = "IllegalStateException if there are rules that name a slot")
    static void oneRuleOfTenThatNamesASlot() {
        Roomandhour x = oneRoom(2, 3, 1);
        for (int k = 0; k < 9; k++) {
            x.addRule(Roomandhour.AT_MOST, 0, 3);
        }
        due.is(x.setGrid(2, 2), 4, "setGrid with nine rules that name none");
        x.addRule(Roomandhour.FREE, 0, 3);
        due.noState(x, () -> x.setGrid(2, 3), "setGrid with one more that names a slot");
        x.dropRule(0);
        due.noState(x, () -> x.setGrid(2, 3), "setGrid with the rule under another number");
        x.dropRule(8);
        due.is(x.setGrid(2, 3), 6, "setGrid without it");
    }

    @Edge(of = "Promise 2", says = "Throws IllegalArgumentException see section 1")
    static void aRefusedGridKeepsGridAndTimetable() {
        Roomandhour x = oneRoom(1, 2, 2);
        put(x, 10, 0);
        due.noArgument(x, () -> x.setGrid(2, 4), "setGrid(2, 4)");
        due.is(x.count(5), 2, "count(5)");
        stands(x, "behind setGrid(2, 4)", 10, 0);
        x.addRule(Roomandhour.FREE, 0, 1);
        due.noState(x, () -> x.setGrid(2, 3), "setGrid(2, 3)");
        due.is(x.count(5), 2, "count(5)");
        stands(x, "behind setGrid(2, 3)", 10, 0);
    }

    @Edge(of = "Section 1", says = "its number is day * hours + hour (days and hours from 0)")
    static void numbersOfSlots() {
        for (int hours = 1; hours <= 3; hours++) {
            Roomandhour x = oneRoom(2, hours, 1);
            for (int slot = 0; slot < 2 * hours; slot++) {
                x.place(0, slot, 0);
                due.is(x.meanHour(), (double) (slot - (slot >= hours ? hours : 0)), "the hour of the slot " + slot + " of " + 2 * hours);
                due.is(printed(x, 2, 0).indexOf('0'), slot >= hours ? slot + 1 : slot, "the place of the slot " + slot + " of " + 2 * hours);
            }
        }
    }

    // ---- classes, teachers, rooms

    @Edge(of = "Promise 3", says = "pupils: 1 to 99")
    static void pupils() {
        Roomandhour x = new Roomandhour();
        for (int bad : OUT_OF_1_TO_99) {
            due.noArgument(x, () -> x.addClass(bad, NONE), "addClass(" + bad + ", NONE)");
        }
        due.is(x.addClass(1, NONE), 0, "addClass(1, NONE)");
        due.is(x.addClass(99, NONE), 1, "addClass(99, NONE)");
        due.is(x.count(0), 2, "count(0)");
    }

    @Edge(of = "Promise 3", says = "home: its home room, or NONE")
    static void homeRoomOrNone() {
        Roomandhour x = new Roomandhour();
        due.is(x.addClass(9, NONE), 0, "addClass(9, NONE) without rooms");
        x.addRoom(9);
        x.addRoom(9);
        due.is(x.addClass(9, 0), 1, "addClass(9, 0), the first room");
        due.is(x.addClass(9, 1), 2, "addClass(9, 1), the last room");
        x.addTeacher();
        for (int k = 0; k < 3; k++) {
            x.addLesson(k, 0, 1);
        }
        put(x, 0, 30, 1);
        due.is(x.weight(), 0, "weight(): each in its home room, or without one");
        put(x, 1, 31, 0);
        due.is(x.weight(), 2, "weight(): two not at home, one without a home");
    }

    @Edge(of = "Promise 3", says = "IndexOutOfBoundsException if home is neither NONE nor a room")
    static void homeThatIsNoRoom() {
        Roomandhour x = new Roomandhour();
        for (int rooms = 0; rooms <= 3; rooms++) {
            int first = rooms;
            due.noIndex(x, () -> x.addClass(9, first), "addClass(9, " + rooms + ") with " + rooms + " rooms");
            for (int bad : new int[] {-2, 3, MIN, MAX}) {
                due.noIndex(x, () -> x.addClass(9, bad), "addClass(9, " + bad + ") with " + rooms + " rooms");
            }
            if (rooms < 3) {
                x.addRoom(9);
                due.is(x.addClass(9, rooms), rooms, "addClass(9, " + rooms + ") with one room more");
            }
        }
    }

    @Edge(of = "Section 1", says = "A class has pupils and a home room (or none).")
    static void aHomeRoomThatIsTooSmall() {
        Roomandhour x = new Roomandhour();
        x.addRoom(1);
        due.is(x.addClass(99, 0), 0, "addClass(99, 0) with a home room of one seat");
        x.addLesson(0, x.addTeacher(), 1);
        due.is(x.first(), false, "first()");
    }

    @Edge(of = "Promise 3", says = "IllegalStateException if there are 4")
    static void aFifthClass() {
        Roomandhour x = new Roomandhour();
        for (int k = 0; k < 4; k++) {
            due.is(x.addClass(1 + k, NONE), k, "addClass of the class " + k);
        }
        due.noState(x, () -> x.addClass(1, NONE), "a fifth class");
        due.is(x.count(0), 4, "count(0)");
    }

    @Edge(of = "Promise 4", says = "IllegalStateException if there are 4")
    static void aFifthTeacher() {
        Roomandhour x = new Roomandhour();
        for (int k = 0; k < 4; k++) {
            due.is(x.addTeacher(), k, "addTeacher() of the teacher " + k);
        }
        due.noState(x, () -> x.addTeacher(), "a fifth teacher");
        due.is(x.count(1), 4, "count(1)");
    }

    @Edge(of = "Promise 5", says = "seats: 1 to 99")
    static void seats() {
        Roomandhour x = new Roomandhour();
        for (int bad : OUT_OF_1_TO_99) {
            due.noArgument(x, () -> x.addRoom(bad), "addRoom(" + bad + ")");
        }
        due.is(x.addRoom(1), 0, "addRoom(1)");
        due.is(x.addRoom(99), 1, "addRoom(99)");
        due.is(x.count(2), 2, "count(2)");
    }

    @Edge(of = "Promise 5", says = "IllegalStateException if there are 3")
    static void aFourthRoom() {
        Roomandhour x = new Roomandhour();
        for (int k = 0; k < 3; k++) {
            due.is(x.addRoom(9), k, "addRoom(9) of the room " + k);
        }
        due.noState(x, () -> x.addRoom(9), "a fourth room");
        due.is(x.count(2), 3, "count(2)");
    }

    // ---- lessons

    @Edge(of = "Promise 6", says = "schoolClass: a class")
    static void classOfALesson() {
        Roomandhour x = new Roomandhour();
        x.addTeacher();
        due.noIndex(x, () -> x.addLesson(0, 0, 1), "addLesson(0, 0, 1) without classes");
        for (int k = 0; k < 4; k++) {
            x.addClass(9, NONE);
            due.is(x.addLesson(k, 0, 1), k, "addLesson(" + k + ", 0, 1), the last class");
            for (int bad : new int[] {-1, k + 1, 4, MIN, MAX}) {
                due.noIndex(x, () -> x.addLesson(bad, 0, 1), "addLesson(" + bad + ", 0, 1) with " + (k + 1) + " classes");
            }
        }
    }

    @Edge(of = "Promise 6", says = "teacher: a teacher")
    static void teacherOfALesson() {
        Roomandhour x = new Roomandhour();
        x.addClass(9, NONE);
        due.noIndex(x, () -> x.addLesson(0, 0, 1), "addLesson(0, 0, 1) without teachers");
        for (int k = 0; k < 4; k++) {
            x.addTeacher();
            due.is(x.addLesson(0, k, 1), k, "addLesson(0, " + k + ", 1), the last teacher");
            for (int bad : new int[] {-1, k + 1, 4, MIN, MAX}) {
                due.noIndex(x, () -> x.addLesson(0, bad, 1), "addLesson(0, " + bad + ", 1) with " + (k + 1) + " teachers");
            }
        }
    }

    @Edge(of = "Promise 6", says = "length: 1 or 2")
    static void lengthOfALesson() {
        Roomandhour x = wide(2, 3);
        for (int bad : OUT_OF_1_OR_2) {
            due.noArgument(x, () -> x.addLesson(0, 0, bad), "addLesson(0, 0, " + bad + ")");
        }
        due.is(x.addLesson(0, 0, 1), 0, "addLesson(0, 0, 1)");
        due.is(x.addLesson(0, 0, 2), 1, "addLesson(0, 0, 2)");
        put(x, 30, 0);
        due.is(printed(x, 0, 0), "11.|0..", "one slot and two slots");
    }

    @Edge(of = "Promise 6", says = "there is no timetable then")
    static void noTimetableBehindALesson() {
        Roomandhour x = wide(2, 3);
        x.first();
        for (int k = 0; k < 6; k++) {
            due.is(x.weight() >= 0, true, "weight() ahead of the lesson " + k);
            x.addLesson(0, 0, 1);
            due.noState(x, () -> x.weight(), "weight() behind the lesson " + k);
            x.place(0, 0, 0);
        }
        due.noState(x, () -> x.addLesson(0, 0, 1), "a seventh lesson");
        stands(x, "the timetable stays behind a lesson that is refused", 0, 0, 0, 0, 0, 0);
    }

    @Edge(of = "Promise 6", says = "IllegalStateException if there are 6")
    static void aSeventhLesson() {
        Roomandhour x = wide(2, 3);
        for (int k = 0; k < 6; k++) {
            due.is(x.addLesson(k % 4, 3 - k % 4, 1 + k % 2), k, "addLesson of the lesson " + k);
        }
        due.noState(x, () -> x.addLesson(0, 0, 1), "a seventh lesson");
        due.is(x.count(3), 6, "count(3)");
        due.noIndex(x, () -> x.left(6), "left(6)");
    }

    // ---- rules

    @Edge(of = "Promise 7", says = "kind: NOT_THEN to FREE")
    static void kindOfARule() {
        Roomandhour x = lessons(2, 3, 1, 1);
        for (int bad : new int[] {-1, 8, -8, MIN, MAX}) {
            due.noArgument(x, () -> x.addRule(bad, 0, 0), "addRule(" + bad + ", 0, 0)");
            due.noArgument(x, () -> x.addRule(bad, 0, 1), "addRule(" + bad + ", 0, 1)");
        }
        for (int kind = 0; kind < 8; kind++) {
            due.is(x.addRule(kind, 0, 1), kind, "addRule(" + kind + ", 0, 1)");
        }
    }

    /** The bounds of a and b: those that are refused, below and above, and those that are taken, the least and the greatest. */
    private static void bounds(Roomandhour x, int kind, int boundA, int boundB) {
        int a = boundA - 1;
        int b = boundB - 1;
        for (int bad : new int[] {-1, boundA, MIN, MAX}) {
            due.noArgument(x, () -> x.addRule(kind, bad, b), "addRule(" + kind + ", " + bad + ", " + b + ")");
            due.noArgument(x, () -> x.addRule(kind, bad, 0), "addRule(" + kind + ", " + bad + ", 0)");
        }
        for (int bad : new int[] {-1, boundB, MIN, MAX}) {
            due.noArgument(x, () -> x.addRule(kind, a, bad), "addRule(" + kind + ", " + a + ", " + bad + ")");
            due.noArgument(x, () -> x.addRule(kind, 0, bad), "addRule(" + kind + ", 0, " + bad + ")");
        }
        due.noArgument(x, () -> x.addRule(kind, boundA, boundB), "addRule(" + kind + ", " + boundA + ", " + boundB + ")");
        due.is(x.addRule(kind, 0, b), 0, "addRule(" + kind + ", 0, " + b + ")");
        due.is(x.addRule(kind, a, 0), 1, "addRule(" + kind + ", " + a + ", 0)");
        due.is(x.dropRule(1), 1, "dropRule(1)");
        due.is(x.dropRule(0), 0, "dropRule(0)");
    }

    @Edge(of = "Section 2", says = "NOT_THEN (0): the lesson a does not cover the slot b.")
    static void boundsOfNotThen() {
        for (int days = 1; days <= 2; days++) {
            for (int hours = 1; hours <= 3; hours++) {
                bounds(lessons(days, hours, 1, 2, 1), Roomandhour.NOT_THEN, 3, days * hours);
            }
        }
    }

    @Edge(of = "Section 2", says = "(b from 0 to 3;")
    static void boundsOfAtMost() {
        for (int hours = 1; hours <= 3; hours++) {
            bounds(lessons(1, hours, 1, 2), Roomandhour.AT_MOST, 4, 4);
        }
    }

    @Edge(of = "Section 2", says = "TOGETHER (2): the lessons a and b begin in the same slot.")
    static void boundsOfTogether() {
        bounds(lessons(2, 3, 1, 1, 1), Roomandhour.TOGETHER, 3, 3);
    }

    @Edge(of = "Section 2", says = "APART (3): the lessons a and b are on different days")
    static void boundsOfApart() {
        bounds(lessons(2, 3, 1, 1, 1), Roomandhour.APART, 3, 3);
    }

    @Edge(of = "Section 2", says = "AHEAD (4): the last slot of the lesson a is smaller than the first slot of the lesson b.")
    static void boundsOfAhead() {
        bounds(lessons(2, 3, 1, 1, 1), Roomandhour.AHEAD, 3, 3);
    }

    @Edge(of = "Section 2", says = "NEAR (5): the lessons a and b are on one day")
    static void boundsOfNear() {
        bounds(lessons(2, 3, 1, 1, 1), Roomandhour.NEAR, 3, 3);
    }

    @Edge(of = "Section 2", says = "IN_ROOM (6): the lesson a is in the room b.")
    static void boundsOfInRoom() {
        Roomandhour x = oneRoom(2, 3, 2);
        bounds(x, Roomandhour.IN_ROOM, 2, 1);
        x.addRoom(9);
        bounds(x, Roomandhour.IN_ROOM, 2, 2);
        x.addRoom(9);
        bounds(x, Roomandhour.IN_ROOM, 2, 3);
    }

    @Edge(of = "Section 2", says = "FREE (7): the teacher a has no lesson that covers the slot b.")
    static void boundsOfFree() {
        for (int days = 1; days <= 2; days++) {
            for (int hours = 1; hours <= 3; hours++) {
                bounds(oneRoom(days, hours, 3), Roomandhour.FREE, 3, days * hours);
            }
        }
    }

    @Edge(of = "Promise 7", says = "or both are the same lesson")
    static void bothTheSameLesson() {
        Roomandhour x = lessons(2, 3, 1, 1, 1);
        for (int kind = Roomandhour.TOGETHER; kind <= Roomandhour.NEAR; kind++) {
            int k = kind;
            for (int lesson = 0; lesson < 3; lesson++) {
                int same = lesson;
                due.noArgument(x, () -> x.addRule(k, same, same), "addRule(" + kind + ", " + lesson + ", " + lesson + ")");
            }
        }
    }

    @Edge(of = "Section 2", says = "In TOGETHER, APART, AHEAD and NEAR a and b are different lessons.")
    static void theSameNumberOfOtherThings() {
        Roomandhour x = lessons(2, 3, 1, 1, 1);
        int number = 0;
        for (int kind : new int[] {Roomandhour.NOT_THEN, Roomandhour.AT_MOST, Roomandhour.IN_ROOM, Roomandhour.FREE}) {
            due.is(x.addRule(kind, 2, 2), number, "addRule(" + kind + ", 2, 2): not two lessons");
            number++;
        }
    }

    @Edge(of = "Promise 7", says = "a or b is a lesson, teacher, slot or room that does not exist")
    static void aThingThatIsMadeLater() {
        Roomandhour x = new Roomandhour();
        x.setGrid(1, 2);
        x.addClass(9, NONE);
        due.noArgument(x, () -> x.addRule(Roomandhour.FREE, 0, 0), "FREE without teachers");
        due.noArgument(x, () -> x.addRule(Roomandhour.AT_MOST, 0, 0), "AT_MOST without teachers");
        x.addTeacher();
        due.is(x.addRule(Roomandhour.AT_MOST, 0, 0), 0, "AT_MOST with a teacher, but without lessons");
        due.noArgument(x, () -> x.addRule(Roomandhour.NOT_THEN, 0, 0), "NOT_THEN without lessons");
        x.addLesson(0, 0, 1);
        due.noArgument(x, () -> x.addRule(Roomandhour.IN_ROOM, 0, 0), "IN_ROOM without rooms");
        due.noArgument(x, () -> x.addRule(Roomandhour.AHEAD, 0, 1), "AHEAD with one lesson");
        x.addRoom(9);
        x.addLesson(0, 0, 1);
        due.is(x.addRule(Roomandhour.IN_ROOM, 0, 0), 1, "IN_ROOM with a room");
        due.is(x.addRule(Roomandhour.AHEAD, 0, 1), 2, "AHEAD with two lessons");
        due.noArgument(x, () -> x.addRule(Roomandhour.FREE, 0, 2), "FREE with a slot of another grid");
        x.setGrid(2, 2);
        due.is(x.addRule(Roomandhour.FREE, 0, 2), 3, "FREE with the slot of the new grid");
    }

    @Edge(of = "Promise 7", says = "IllegalStateException if there are 10")
    static void anEleventhRule() {
        for (int kind = 0; kind < 8; kind++) {
            int k = kind;
            Roomandhour x = lessons(2, 3, 1, 1);
            for (int number = 0; number < 10; number++) {
                due.is(x.addRule(kind, 0, 1), number, "addRule of the rule " + number);
            }
            due.noState(x, () -> x.addRule(k, 0, 1), "an eleventh rule of the kind " + kind);
            due.is(x.count(4), 10, "count(4)");
        }
    }

    @Edge(of = "Section 1", says = "at most 4 classes, 4 teachers, 3 rooms, 6 lessons and 10 rules")
    static void roomForOneRuleBehindDropRule() {
        Roomandhour x = full();
        due.is(x.dropRule(4), 9, "dropRule(4)");
        due.is(x.addRule(Roomandhour.IN_ROOM, 5, 2), 9, "addRule behind dropRule");
        due.noState(x, () -> x.addRule(Roomandhour.IN_ROOM, 5, 2), "an eleventh rule");
    }

    @Edge(of = "Promise 8", says = "rule: a rule")
    static void ruleToDrop() {
        Roomandhour x = lessons(2, 3, 1, 1);
        for (int rules = 0; rules <= 10; rules++) {
            for (int bad : new int[] {-1, rules, 10, MIN, MAX}) {
                due.noIndex(x, () -> x.dropRule(bad), "dropRule(" + bad + ") with " + rules + " rules");
            }
            if (rules < 10) {
                x.addRule(Roomandhour.AT_MOST, 0, 1);
            }
        }
        for (int rules = 9; rules >= 0; rules--) {
            due.is(x.dropRule(rules % 2 == 0 ? rules : 0), rules, "dropRule: the last one, or the first one");
        }
        due.noIndex(x, () -> x.dropRule(0), "dropRule(0) when all are gone");
    }

    @Edge(of = "Promise 8", says = "those with greater numbers get the number that is 1 less")
    static void numbersBehindDropRule() {
        for (int dropped = 0; dropped < 4; dropped++) {
            Roomandhour x = lessons(2, 3, 1, 1);
            long[] numbers = new long[11];
            int length = 0;
            for (int rule = 0; rule < 4; rule++) {
                x.addRule(Roomandhour.NOT_THEN, rule % 2, rule);
                if (rule != dropped) {
                    numbers[length] = Roomandhour.NOT_THEN;
                    numbers[length + 1] = rule % 2;
                    numbers[length + 2] = rule;
                    length += 3;
                }
            }
            put(x, 50, 41);
            numbers[9] = 50;
            numbers[10] = 41;
            due.is(x.dropRule(dropped), 3, "dropRule(" + dropped + ")");
            due.is(x.checksum(), sum(numbers), "checksum() behind dropRule(" + dropped + ")");
        }
    }

    @Edge(of = "Promise 8", says = "Returns how many rules are left.")
    static void theOnlyRule() {
        Roomandhour x = oneRoom(1, 1, 1);
        x.addRule(Roomandhour.FREE, 0, 0);
        due.is(x.first(), false, "first() with the only rule");
        due.is(x.dropRule(0), 0, "dropRule(0)");
        due.is(x.first(), true, "first() without it");
    }

    // ---- what goes and what stays

    @Edge(of = "Section 2", says = "the present timetable goes if the grid changes, or a lesson is added, and stays otherwise (it may break rules then)")
    static void whatTheTimetableOutlives() {
        Roomandhour x = new Roomandhour();
        x.addRoom(30);
        x.addClass(20, 0);
        x.addTeacher();
        x.addLesson(0, 0, 1);
        x.place(0, 5, 0);
        x.addRoom(9);
        stands(x, "behind addRoom", 50);
        x.addClass(20, 1);
        stands(x, "behind addClass", 50);
        x.addTeacher();
        stands(x, "behind addTeacher", 50);
        x.addRule(Roomandhour.NOT_THEN, 0, 5);
        stands(x, "behind a rule that it breaks", 50);
        due.is(x.broken(), 1, "broken()");
        x.dropRule(0);
        stands(x, "behind dropRule", 50);
        x.setWeights(9, 9, 9);
        stands(x, "behind setWeights", 50);
        x.addLesson(1, 1, 1);
        due.noState(x, () -> x.at(0), "at(0) behind addLesson");
        x.place(1, 5, 1);
        x.setGrid(2, 3);
        due.noState(x, () -> x.at(0), "at(0) behind setGrid");
    }

    @Edge(of = "Section 2", says = "and stays otherwise (it may break rules then)")
    static void whatAskingLeavesAsItIs() {
        Roomandhour x = oneRoom(2, 3, 3);
        x.addRule(Roomandhour.AHEAD, 0, 1);
        x.addRule(Roomandhour.AHEAD, 1, 0);
        put(x, 50, 50, 20);
        due.keeps(x, () -> x.left(0), 0, "left(0)");
        due.keeps(x, () -> x.at(0), 50, "at(0)");
        due.keeps(x, () -> x.broken(), 3, "broken()");
        due.keeps(x, () -> x.groundFaults(), 1, "groundFaults()");
        due.keeps(x, () -> x.image(), NONE, "image()");
        due.keeps(x, () -> x.core(), 3, "core()");
        due.keeps(x, () -> x.cores(), 1, "cores()");
        due.keeps(x, () -> x.coreAt(0), 3, "coreAt(0)");
        due.keeps(x, () -> x.isNeeded(0), true, "isNeeded(0)");
        due.keeps(x, () -> x.matched(5), 1, "matched(5)");
        due.keeps(x, () -> x.unfit(5), 3, "unfit(5)");
        due.keeps(x, () -> x.bound(), NONE, "bound()");
        due.keeps(x, () -> x.against(2, 0), 3, "against(2, 0)");
        due.keeps(x, () -> x.share(0), 1, "share(0)");
        due.keeps(x, () -> x.examDays(7), 1, "examDays(7)");
        due.keeps(x, () -> x.examDay(7, 2), 0, "examDay(7, 2)");
        due.keeps(x, () -> x.errors(), 0, "errors()");
        x.print(2, 0);
        stands(x, "behind print", 50, 50, 20);
    }

    @Edge(of = "Section 2", says = "setGrid(), rooms, lessons and rules can be added at any time")
    static void addedAtAnyTime() {
        Roomandhour x = oneRoom(1, 1, 2);
        due.is(x.first(), false, "first() in one slot and one room");
        due.is(x.core(), 0, "core()");
        x.addRoom(30);
        due.is(x.first(), true, "first() with a second room");
        x.addRule(Roomandhour.APART, 0, 1);
        due.is(x.first(), false, "first() with APART");
        due.is(x.core(), 1, "core() with APART");
        x.setGrid(2, 1);
        due.is(x.first(), true, "first() in two days");
        stands(x, "in two days", 0, 10);
        x.addLesson(0, 1, 1);
        due.is(x.first(), false, "first() with a lesson that has no slot of its own");
        x.setGrid(2, 2);
        due.is(x.first(), true, "first() in four slots");
        stands(x, "in four slots", 0, 20, 10);
    }

    @Edge(of = "Section 1", says = "each of them numbered from 0 as it is made")
    static void numbersAsTheyAreMade() {
        Roomandhour x = new Roomandhour();
        for (int k = 0; k < 3; k++) {
            due.is(x.addRoom(30), k, "addRoom");
            due.is(x.addClass(20, k), k, "addClass");
            due.is(x.addTeacher(), k, "addTeacher");
            due.is(x.addLesson(k, k, 1), k, "addLesson");
            due.is(x.addRule(Roomandhour.IN_ROOM, k, k), k, "addRule");
        }
    }

    // ---- exceptions

    private static final String FIRST = "If several exceptions apply to a call, the one that is listed first is thrown";

    @Edge(of = "Section 1", says = FIRST)
    static void firstOfSetGrid() {
        Roomandhour x = oneRoom(2, 3, 1);
        x.addRule(Roomandhour.NOT_THEN, 0, 0);
        due.noState(x, () -> x.setGrid(1, 3), "setGrid(1, 3) with a rule that names a slot");
        due.noArgument(x, () -> x.setGrid(0, 3), "setGrid(0, 3) with a rule that names a slot");
        due.noArgument(x, () -> x.setGrid(1, 4), "setGrid(1, 4) with a rule that names a slot");
    }

    @Edge(of = "Section 1", says = FIRST)
    static void firstOfAddClass() {
        Roomandhour x = full();
        due.noState(x, () -> x.addClass(20, 2), "a fifth class");
        due.noArgument(x, () -> x.addClass(0, 2), "a fifth class, without pupils");
        due.noIndex(x, () -> x.addClass(20, 3), "a fifth class, in no room");
        due.noIndex(x, () -> x.addClass(0, 3), "a fifth class, without pupils, in no room");
        Roomandhour y = new Roomandhour();
        due.noIndex(y, () -> y.addClass(100, 0), "a first class of 100 in no room");
    }

    @Edge(of = "Section 1", says = FIRST)
    static void firstOfAddRoom() {
        Roomandhour x = full();
        due.noState(x, () -> x.addRoom(1), "a fourth room");
        due.noArgument(x, () -> x.addRoom(0), "a fourth room, without seats");
        due.noArgument(x, () -> x.addRoom(100), "a fourth room, with 100 seats");
    }

    @Edge(of = "Section 1", says = FIRST)
    static void firstOfAddLesson() {
        Roomandhour x = full();
        due.noState(x, () -> x.addLesson(3, 3, 2), "a seventh lesson");
        due.noArgument(x, () -> x.addLesson(3, 3, 3), "a seventh lesson, of length 3");
        due.noIndex(x, () -> x.addLesson(4, 3, 2), "a seventh lesson, of no class");
        due.noIndex(x, () -> x.addLesson(3, 4, 2), "a seventh lesson, of no teacher");
        due.noIndex(x, () -> x.addLesson(4, 4, 0), "a seventh lesson, of no class and teacher, of length 0");
        Roomandhour y = new Roomandhour();
        due.noIndex(y, () -> y.addLesson(0, 0, 0), "a first lesson, of no class and teacher, of length 0");
    }

    @Edge(of = "Section 1", says = FIRST)
    static void firstOfAddRule() {
        Roomandhour x = full();
        due.noState(x, () -> x.addRule(0, 5, 5), "an eleventh rule");
        due.noArgument(x, () -> x.addRule(8, 5, 5), "an eleventh rule, of no kind");
        due.noArgument(x, () -> x.addRule(0, 6, 5), "an eleventh rule, of no lesson");
        due.noArgument(x, () -> x.addRule(0, 5, 6), "an eleventh rule, of no slot");
        due.noArgument(x, () -> x.addRule(2, 5, 5), "an eleventh rule, of one lesson");
    }

    @Edge(of = "Section 1", says = FIRST)
    static void firstOfLeftAt() {
        Roomandhour x = oneRoom(1, 1, 1);
        due.noElement(x, () -> x.leftAt(0, 1), "leftAt(0, 1)");
        due.noIndex(x, () -> x.leftAt(1, 1), "leftAt(1, 1)");
        due.noIndex(x, () -> x.leftAt(-1, -1), "leftAt(-1, -1)");
    }

    @Edge(of = "Section 1", says = FIRST)
    static void firstOfAtAndShare() {
        Roomandhour x = oneRoom(2, 3, 2);
        due.noState(x, () -> x.at(1), "at(1) without a timetable");
        due.noIndex(x, () -> x.at(2), "at(2) without a timetable");
        due.noState(x, () -> x.share(1), "share(1) without a timetable");
        due.noIndex(x, () -> x.share(2), "share(2) without a timetable");
    }

    @Edge(of = "Section 1", says = FIRST)
    static void firstOfPrint() {
        Roomandhour x = oneRoom(2, 3, 2);
        int[] last = {1, 1, 0};
        for (int kind = 0; kind < 3; kind++) {
            int k = kind;
            due.noState(x, () -> x.print(k, last[k]), "print(" + kind + ", the last one) without a timetable");
            due.noIndex(x, () -> x.print(k, last[k] + 1), "print(" + kind + ", one that is not there) without a timetable");
        }
        due.noArgument(x, () -> x.print(3, 0), "print(3, 0) without a timetable");
        due.noArgument(x, () -> x.print(3, 2), "print(3, 2) without a timetable");
        due.noArgument(x, () -> x.print(-1, -1), "print(-1, -1) without a timetable");
        x.first();
        due.noArgument(x, () -> x.print(3, 2), "print(3, 2) with a timetable");
    }

    @Edge(of = "Section 1", says = FIRST)
    static void firstOfMatchedAndUnfit() {
        Roomandhour x = oneRoom(1, 3, 2);
        due.noState(x, () -> x.matched(2), "matched(2) without a timetable");
        due.noIndex(x, () -> x.matched(3), "matched(3) without a timetable");
        due.noState(x, () -> x.unfit(2), "unfit(2) without a timetable");
        due.noIndex(x, () -> x.unfit(3), "unfit(3) without a timetable");
    }

    @Edge(of = "Section 1", says = FIRST)
    static void firstOfAway() {
        Roomandhour x = oneRoom(1, 3, 2);
        due.noState(x, () -> x.away(1, 0), "away(1, 0) without a timetable");
        due.noIndex(x, () -> x.away(2, 0), "away(2, 0) without a timetable");
        due.noIndex(x, () -> x.away(1, 1), "away(1, 1) without a timetable");
    }

    @Edge(of = "Section 1", says = FIRST)
    static void firstOfExamDay() {
        Roomandhour x = oneRoom(1, 3, 2);
        due.noArgument(x, () -> x.examDay(0, 1), "examDay(0, 1): not one of them");
        due.noArgument(x, () -> x.examDay(7, 1), "examDay(7, 1): others than lessons");
        due.noIndex(x, () -> x.examDay(0, 2), "examDay(0, 2): no such lesson, and not one of them");
        due.noIndex(x, () -> x.examDay(7, 2), "examDay(7, 2): no such lesson, and others than lessons");
    }

    @Edge(of = "Section 1", says = "a call that throws an exception changes nothing")
    static void refusedCallsChangeNothing() {
        Roomandhour x = full();
        x.setWeights(2, 3, 4);
        put(x, 50, 41, 32, 20, 21, 2);
        x.image();
        x.print(1, 0);
        put(x, 0, 1, 2, 10, 11, 0);
        due.noState(x, () -> x.addClass(1, NONE), "a fifth class");
        due.noState(x, () -> x.addTeacher(), "a fifth teacher");
        due.noState(x, () -> x.addRoom(1), "a fourth room");
        due.noState(x, () -> x.addLesson(0, 0, 1), "a seventh lesson");
        due.noState(x, () -> x.addRule(6, 0, 0), "an eleventh rule");
        due.noState(x, () -> x.improve(), "improve() of a timetable that is not good");
        due.noIndex(x, () -> x.dropRule(10), "dropRule(10)");
        due.noIndex(x, () -> x.left(6), "left(6)");
        due.noIndex(x, () -> x.leftAt(6, 0), "leftAt(6, 0)");
        due.noElement(x, () -> x.leftAt(0, 18), "leftAt(0, 18)");
        due.noIndex(x, () -> x.at(6), "at(6)");
        due.noIndex(x, () -> x.place(6, 0, 0), "place(6, 0, 0)");
        due.noIndex(x, () -> x.place(0, 6, 0), "place(0, 6, 0)");
        due.noIndex(x, () -> x.place(0, 0, 3), "place(0, 0, 3)");
        due.noIndex(x, () -> x.print(0, 4), "print(0, 4)");
        due.noArgument(x, () -> x.print(3, 0), "print(3, 0)");
        due.noElement(x, () -> x.coreAt(0), "coreAt(0)");
        due.noIndex(x, () -> x.isNeeded(10), "isNeeded(10)");
        due.noIndex(x, () -> x.matched(6), "matched(6)");
        due.noIndex(x, () -> x.unfit(6), "unfit(6)");
        due.noArgument(x, () -> x.setWeights(10, 0, 0), "setWeights(10, 0, 0)");
        due.noArgument(x, () -> x.setWeights(0, 10, 0), "setWeights(0, 10, 0)");
        due.noArgument(x, () -> x.setWeights(0, 0, 10), "setWeights(0, 0, 10)");
        due.noIndex(x, () -> x.away(4, 0), "away(4, 0)");
        due.noIndex(x, () -> x.away(0, 2), "away(0, 2)");
        due.noIndex(x, () -> x.against(4, 0), "against(4, 0)");
        due.noIndex(x, () -> x.share(4), "share(4)");
        due.noArgument(x, () -> x.examDays(64), "examDays(64)");
        due.noArgument(x, () -> x.examDay(64, 0), "examDay(64, 0)");
        due.noArgument(x, () -> x.count(6), "count(6)");
        due.noArgument(x, () -> x.setGrid(3, 3), "setGrid(3, 3)");
        stands(x, "the timetable", 0, 1, 2, 10, 11, 0);
        due.is(row(x), "..4|..0", "the output");
        due.is(x.restore(), 6, "restore(): the image");
        stands(x, "the image", 50, 41, 32, 20, 21, 2);
        due.is(x.setWeights(1, 1, 1), 2, "setWeights(1, 1, 1): the weight of late hours");
    }

    @Edge(of = "Section 1", says = "a call that throws an exception changes nothing")
    static void callsWithoutATimetableChangeNothing() {
        Roomandhour x = oneRoom(2, 3, 2);
        put(x, 40, 20);
        x.image();
        x.print(0, 0);
        x.setGrid(1, 2);
        due.noState(x, () -> x.next(), "next()");
        due.noState(x, () -> x.at(0), "at(0)");
        due.noState(x, () -> x.broken(), "broken()");
        due.noState(x, () -> x.groundFaults(), "groundFaults()");
        due.noState(x, () -> x.image(), "image()");
        due.noState(x, () -> x.restore(), "restore(): slots that do not exist any more");
        due.noState(x, () -> x.print(0, 0), "print(0, 0)");
        due.noState(x, () -> x.matched(0), "matched(0)");
        due.noState(x, () -> x.unfit(0), "unfit(0)");
        due.noState(x, () -> x.weight(), "weight()");
        due.noState(x, () -> x.improve(), "improve()");
        due.noState(x, () -> x.away(0, 0), "away(0, 0)");
        due.noState(x, () -> x.share(0), "share(0)");
        due.noState(x, () -> x.meanHour(), "meanHour()");
        due.noState(x, () -> x.usedShare(), "usedShare()");
        due.is(row(x), "...|.0.", "the output stays");
        x.setGrid(2, 3);
        due.is(x.restore(), NONE, "restore(): the image stays");
        stands(x, "the image", 40, 20);
    }

    @Edge(of = "Section 1", says = "An IndexOutOfBoundsException is thrown for a class, teacher, room, lesson, slot or rule that does not exist, an IllegalArgumentException for any other parameter out of its range.")
    static void whichExceptionForWhichThing() {
        Roomandhour x = full();
        x.dropRule(9);
        for (int bad : new int[] {-1, MIN, MAX}) {
            due.noIndex(x, () -> x.print(0, bad), "a class " + bad);
            due.noIndex(x, () -> x.share(bad), "a teacher " + bad);
            due.noIndex(x, () -> x.place(0, 0, bad), "a room " + bad);
            due.noIndex(x, () -> x.left(bad), "a lesson " + bad);
            due.noIndex(x, () -> x.matched(bad), "a slot " + bad);
            due.noIndex(x, () -> x.isNeeded(bad), "a rule " + bad);
            due.noArgument(x, () -> x.setWeights(bad, 0, 0), "a weight " + bad);
            due.noArgument(x, () -> x.print(bad, 0), "a kind of row " + bad);
            due.noArgument(x, () -> x.count(bad), "a number of count() " + bad);
            due.noArgument(x, () -> x.examDays(bad), "a set " + bad);
        }
    }

    @Edge(of = "Section 1", says = "Sets are told as numbers: bit i (2 to the power of i) for the thing with the number i.")
    static void setsAsNumbers() {
        Roomandhour x = lessons(2, 3, 1, 1, 1, 1);
        put(x, 0, 10, 20, 30);
        for (int rule = 0; rule < 10; rule++) {
            x.addRule(Roomandhour.IN_ROOM, 0, rule % 2);
            due.is(x.broken(), 0b1010101010 & (1 << rule + 1) - 1, "broken() with " + (rule + 1) + " rules");
        }
        for (int lesson = 0; lesson < 4; lesson++) {
            due.is(x.examDay(1 << lesson, lesson), 0, "examDay(" + (1 << lesson) + ", " + lesson + ")");
        }
    }
}
