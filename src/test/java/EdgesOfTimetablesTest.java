/** The boundary cases of promises 11 to 20, and of the rules in section 2. */
public final class EdgesOfTimetablesTest extends Schools {
    private static final String OVER = "A lesson that breaks (a) covers its first slot, and the next slot if there is one.";

    public static void main(String[] args) throws Exception {
        Edges.run(EdgesOfTimetablesTest.class, Edges.promises(11, 20, "Section 1", "Section 2"));
    }

    // ---- first

    @Edge(of = "Promise 11", says = "Returns whether there is one (without lessons there is one).")
    static void firstWithoutLessons() {
        Roomandhour x = new Roomandhour();
        due.is(x.first(), true, "first() in a new school");
        due.is(x.weight(), 0, "weight()");
        due.is(x.checksum(), 0L, "checksum()");
        Roomandhour y = wide(1, 1);
        y.addRule(Roomandhour.AT_MOST, 0, 0);
        y.addRule(Roomandhour.FREE, 0, 0);
        due.is(y.first(), true, "first() with rules that no lesson can break");
        due.is(y.broken(), 0, "broken()");
    }

    @Edge(of = "Promise 11", says = "if there is none, nothing changes")
    static void firstWithoutAGoodOne() {
        Roomandhour x = oneRoom(1, 1, 2);
        due.keeps(x, () -> x.first(), false, "first() without a timetable");
        due.noState(x, () -> x.at(0), "at(0) behind it");
        put(x, 0, 0);
        due.keeps(x, () -> x.first(), false, "first() with a timetable that is not good");
        stands(x, "behind it", 0, 0);
    }

    @Edge(of = "Promise 11", says = "if there is none, nothing changes")
    static void firstThatARuleForbids() {
        Roomandhour x = oneRoom(2, 3, 2);
        put(x, 50, 20);
        x.addRule(Roomandhour.TOGETHER, 0, 1);
        due.keeps(x, () -> x.first(), false, "first() with two lessons together in one room");
        stands(x, "the timetable that was good", 50, 20);
    }

    @Edge(of = "Promise 11", says = "Makes the smallest good timetable the present one")
    static void firstOfAll() {
        Roomandhour x = oneRoom(1, 1, 1);
        due.is(x.first(), true, "first() with one timetable");
        stands(x, "the only one", 0);
        Roomandhour y = oneRoom(2, 3, 1);
        y.place(0, 5, 0);
        due.is(y.first(), true, "first() from the last one");
        stands(y, "the first one", 0);
        for (int slot = 0; slot < 5; slot++) {
            y.addRule(Roomandhour.NOT_THEN, 0, slot);
        }
        due.is(y.first(), true, "first() with the last slot alone");
        stands(y, "the first one is the last one", 50);
    }

    @Edge(of = "Promise 11", says = "Makes the smallest good timetable the present one")
    static void firstOfTheMostLessons() {
        Roomandhour x = new Roomandhour();
        x.addRoom(30);
        x.addTeacher();
        x.addClass(30, NONE);
        for (int k = 0; k < 6; k++) {
            x.addLesson(0, 0, 1);
        }
        due.is(x.first(), true, "first() with six lessons in six slots");
        stands(x, "one behind the other", 0, 10, 20, 30, 40, 50);
        x.addRule(Roomandhour.AHEAD, 5, 0);
        due.is(x.first(), true, "first() with the last one ahead of the first one");
        stands(x, "the first one gives its slot to the last one", 10, 20, 30, 40, 50, 0);
    }

    @Edge(of = "Section 1", says = "Timetables are ordered by the value of the lesson 0, then by that of the lesson 1, and so on.")
    static void orderOfTimetables() {
        Roomandhour x = oneRoom(2, 1, 2);
        x.addRoom(30);
        x.first();
        int[][] rows = {{0, 1}, {0, 10}, {0, 11}, {1, 0}, {1, 10}, {1, 11}, {10, 0}, {10, 1}, {10, 11}, {11, 0}, {11, 1}, {11, 10}};
        for (int k = 0; k < rows.length; k++) {
            stands(x, "the timetable " + k, rows[k]);
            due.is(x.next(), k < rows.length - 1, "next() behind the timetable " + k);
        }
    }

    // ---- next

    @Edge(of = "Promise 12", says = "IllegalStateException if there is no timetable")
    static void nextWithoutATimetable() {
        Roomandhour x = oneRoom(2, 3, 1);
        due.noState(x, () -> x.next(), "next() in a new school");
        x.first();
        x.setGrid(2, 3);
        due.noState(x, () -> x.next(), "next() behind setGrid");
        x.first();
        x.addLesson(0, 0, 1);
        due.noState(x, () -> x.next(), "next() behind addLesson");
    }

    @Edge(of = "Promise 12", says = "if there is none, nothing changes")
    static void nextBehindTheLastOne() {
        Roomandhour x = oneRoom(1, 1, 1);
        x.first();
        due.keeps(x, () -> x.next(), false, "next() behind the only one");
        stands(x, "the only one", 0);
        Roomandhour y = oneRoom(2, 3, 2);
        put(y, 50, 40);
        due.keeps(y, () -> y.next(), false, "next() behind the last one");
        put(y, 50, 50);
        due.keeps(y, () -> y.next(), false, "next() behind one that is not good, and greater than all good ones");
        stands(y, "it stays", 50, 50);
    }

    @Edge(of = "Promise 12", says = "if there is none, nothing changes")
    static void nextWithoutAGoodOne() {
        Roomandhour x = oneRoom(1, 1, 2);
        put(x, 0, 0);
        due.keeps(x, () -> x.next(), false, "next() where none is good");
        Roomandhour e = new Roomandhour();
        e.first();
        due.keeps(e, () -> e.next(), false, "next() without lessons");
        due.is(e.weight(), 0, "weight(): the timetable without lessons stays");
    }

    @Edge(of = "Promise 12", says = "the smallest good timetable that is greater than the present one")
    static void nextBehindOneThatIsNotGood() {
        Roomandhour x = oneRoom(1, 3, 2);
        put(x, 0, 0);
        due.is(x.next(), true, "next() behind the least one, which is not good");
        stands(x, "the smallest good one", 0, 10);
        put(x, 10, 10);
        due.is(x.next(), true, "next() behind one in the middle, which is not good");
        stands(x, "the good one behind it", 10, 20);
        put(x, 20, 10);
        due.is(x.next(), false, "next() behind the last good one");
    }

    @Edge(of = "Promise 12", says = "the smallest good timetable that is greater than the present one")
    static void nextBehindOneThatARuleForbids() {
        Roomandhour x = oneRoom(1, 3, 2);
        put(x, 0, 20);
        x.addRule(Roomandhour.AHEAD, 1, 0);
        due.is(x.next(), true, "next() behind one that the rule forbids");
        stands(x, "the smallest one that keeps it", 10, 0);
        due.is(x.next(), true, "next()");
        stands(x, "the second one", 20, 0);
        due.is(x.next(), true, "next()");
        stands(x, "the last one", 20, 10);
        due.is(x.next(), false, "next() behind the last one");
    }

    @Edge(of = "Promise 12", says = "Returns whether there is one.")
    static void nextThroughAllOfThem() {
        // 6 slots for the lesson 0, 5 for the lesson 1, 4 for the lesson 2.
        Roomandhour x = oneRoom(2, 3, 3);
        x.first();
        int number = 1;
        while (number < 200 && x.next()) {
            number++;
        }
        due.is(number, 120, "the timetables of three lessons in six slots");
        stands(x, "the last one", 50, 40, 30);
    }

    // ---- place and at

    @Edge(of = "Promise 13", says = "IndexOutOfBoundsException see section 1")
    static void placeWhereNothingIs() {
        Roomandhour x = new Roomandhour();
        x.addClass(9, NONE);
        x.addTeacher();
        due.noIndex(x, () -> x.place(0, 0, 0), "place(0, 0, 0) without lessons and rooms");
        x.addLesson(0, 0, 1);
        due.noIndex(x, () -> x.place(0, 0, 0), "place(0, 0, 0) without rooms");
        x.addRoom(1);
        due.is(x.place(0, 0, 0), NONE, "place(0, 0, 0) in a room that is too small");
        for (int bad : new int[] {-1, 1, 6, MIN, MAX}) {
            due.noIndex(x, () -> x.place(bad, 0, 0), "place(" + bad + ", 0, 0)");
            due.noIndex(x, () -> x.place(0, 0, bad), "place(0, 0, " + bad + ")");
        }
        for (int bad : new int[] {-1, 6, MIN, MAX}) {
            due.noIndex(x, () -> x.place(0, bad, 0), "place(0, " + bad + ", 0)");
        }
    }

    @Edge(of = "Promise 13", says = "slot: a slot")
    static void placeInEachGrid() {
        for (int days = 1; days <= 2; days++) {
            for (int hours = 1; hours <= 3; hours++) {
                Roomandhour x = oneRoom(days, hours, 1);
                int slots = days * hours;
                due.noIndex(x, () -> x.place(0, slots, 0), "place(0, " + slots + ", 0) in " + slots + " slots");
                due.is(x.place(0, slots - 1, 0), NONE, "place(0, " + (slots - 1) + ", 0) in " + slots + " slots");
                due.is(x.at(0), 10 * (slots - 1), "at(0)");
            }
        }
    }

    @Edge(of = "Promise 13", says = "Returns 10 * slot + room of the value before; NONE if there was no timetable.")
    static void valueBefore() {
        Roomandhour x = lessons(2, 3, 1);
        due.is(x.place(0, 5, 2), NONE, "place(0, 5, 2) without a timetable");
        due.is(x.place(0, 0, 0), 52, "place(0, 0, 0): the greatest value");
        due.is(x.place(0, 0, 0), 0, "place(0, 0, 0): the least value, and the same one again");
        due.is(x.place(0, 5, 2), 0, "place(0, 5, 2)");
        x.setGrid(2, 3);
        due.is(x.place(0, 1, 1), NONE, "place(0, 1, 1) behind setGrid");
    }

    @Edge(of = "Promise 13", says = "If there is no timetable, all other lessons get the slot 0 and the room 0.")
    static void allOthersAtFirst() {
        for (int lesson = 0; lesson < 6; lesson++) {
            Roomandhour x = full();
            x.setGrid(2, 3);
            due.is(x.place(lesson, 4, 1), NONE, "place(" + lesson + ", 4, 1)");
            for (int other = 0; other < 6; other++) {
                due.is(x.at(other), other == lesson ? 41 : 0, "at(" + other + ") behind place(" + lesson + ", 4, 1)");
            }
        }
    }

    @Edge(of = "Promise 13", says = "whatever rules are broken; the other lessons keep theirs")
    static void whateverRulesAreBroken() {
        Roomandhour x = full();
        for (int lesson = 0; lesson < 6; lesson++) {
            x.place(lesson, 5, 2);
        }
        stands(x, "all in the last slot and room", 52, 52, 52, 52, 52, 52);
        due.is(x.place(3, 0, 0), 52, "place(3, 0, 0)");
        stands(x, "the others keep theirs", 52, 52, 52, 0, 52, 52);
    }

    @Edge(of = "Promise 14", says = "IndexOutOfBoundsException see section 1")
    static void atOfNoLesson() {
        Roomandhour x = full();
        for (int bad : new int[] {-1, 6, MIN, MAX}) {
            due.noIndex(x, () -> x.at(bad), "at(" + bad + ")");
        }
        due.is(x.at(5) >= 0, true, "at(5), the last lesson");
        Roomandhour e = new Roomandhour();
        e.first();
        due.noIndex(e, () -> e.at(0), "at(0) without lessons");
    }

    @Edge(of = "Promise 14", says = "IllegalStateException if there is no timetable")
    static void atWithoutATimetable() {
        Roomandhour x = oneRoom(1, 1, 2);
        due.noState(x, () -> x.at(0), "at(0)");
        x.first();
        due.noState(x, () -> x.at(0), "at(0) behind a first() that found none");
    }

    @Edge(of = "Promise 14", says = "Returns 10 * slot + room.")
    static void eachValue() {
        Roomandhour x = lessons(2, 3, 1);
        for (int slot = 0; slot < 6; slot++) {
            for (int room = 0; room < 3; room++) {
                x.place(0, slot, room);
                due.is(x.at(0), 10 * slot + room, "at(0)");
            }
        }
    }

    // ---- broken, rule by rule

    /** Asks for broken() of the only rule, at each slot of the lessons 0 and 1; the words tell at which it is broken. */
    private static void brokenAt(Roomandhour x, String... slots) {
        for (int a = 0; a < slots.length; a++) {
            for (int b = 0; b < slots[a].length(); b++) {
                put(x, 10 * a, 10 * b + 1);
                due.is(x.broken(), slots[a].charAt(b) == '#' ? 1 : 0, "broken() with the lessons in the slots " + a + " and " + b);
            }
        }
    }

    @Edge(of = "Section 2", says = "NOT_THEN (0): the lesson a does not cover the slot b.")
    static void notThenInEachSlot() {
        for (int slot = 0; slot < 6; slot++) {
            Roomandhour x = lessons(2, 3, 1, 2);
            x.addRule(Roomandhour.NOT_THEN, 1, slot);
            for (int begin = 0; begin < 6; begin++) {
                put(x, slot == 0 ? 50 : 0, 10 * begin);
                boolean covers = begin == slot || begin + 1 == slot;
                due.is(x.broken(), covers ? 1 : 0, "broken() with two slots from " + begin + " on, and NOT_THEN " + slot);
            }
        }
    }

    @Edge(of = "Section 2", says = "the teacher a has on each day at most b slots covered by lessons of this teacher")
    static void atMostSoMany() {
        Roomandhour x = wide(2, 3);
        for (int k = 0; k < 4; k++) {
            x.addLesson(k, 0, 1);
        }
        int[][] tables = {{0, 1, 2, 0}, {0, 10, 1, 11}, {0, 10, 20, 0}};
        for (int slots = 1; slots <= 3; slots++) {
            for (int most = 0; most <= 3; most++) {
                x.addRule(Roomandhour.AT_MOST, 0, most);
                put(x, tables[slots - 1]);
                due.is(x.broken(), slots > most ? 1 : 0, "broken() with " + slots + " slots on the first day, at most " + most);
                for (int k = 0; k < 4; k++) {
                    x.place(k, tables[slots - 1][k] / 10 + 3, k % 3);
                }
                due.is(x.broken(), slots > most ? 1 : 0, "broken() with " + slots + " slots on the second day, at most " + most);
                x.dropRule(0);
            }
        }
    }

    @Edge(of = "Section 2", says = "the teacher a has on each day at most b slots covered by lessons of this teacher")
    static void atMostOnEachDay() {
        Roomandhour x = wide(2, 3);
        x.addLesson(0, 0, 2);
        x.addLesson(1, 0, 2);
        x.addRule(Roomandhour.AT_MOST, 0, 2);
        put(x, 0, 30);
        due.is(x.broken(), 0, "broken() with two slots on each day");
        put(x, 0, 10);
        due.is(x.broken(), 1, "broken() with three slots on one day");
        x.addRule(Roomandhour.AT_MOST, 1, 0);
        due.is(x.broken(), 1, "broken(): a teacher without lessons has no slots");
    }

    @Edge(of = "Section 2", says = "each slot counts once")
    static void eachSlotCountsOnce() {
        Roomandhour x = wide(1, 3);
        for (int k = 0; k < 6; k++) {
            x.addLesson(k % 4, 0, 1);
        }
        x.addRule(Roomandhour.AT_MOST, 0, 1);
        put(x, 20, 20, 20, 20, 20, 20);
        due.is(x.broken(), 0, "broken() with six lessons in one slot, at most 1");
        x.place(5, 1, 0);
        due.is(x.broken(), 1, "broken() with one of them in another slot");
    }

    @Edge(of = "Section 2", says = "TOGETHER (2): the lessons a and b begin in the same slot.")
    static void togetherAtEachSlot() {
        Roomandhour x = lessons(2, 3, 1, 2);
        x.addRule(Roomandhour.TOGETHER, 0, 1);
        brokenAt(x, ".#####", "#.####", "##.###", "###.##", "####.#", "#####.");
    }

    @Edge(of = "Section 2", says = "(a lesson is on the day of its first slot)")
    static void apartAtEachSlot() {
        Roomandhour x = lessons(2, 3, 2, 1);
        x.addRule(Roomandhour.APART, 1, 0);
        brokenAt(x, "###...", "###...", "###...", "...###", "...###", "...###");
        Roomandhour y = lessons(1, 3, 1, 1);
        y.addRule(Roomandhour.APART, 0, 1);
        brokenAt(y, "###", "###", "###");
        Roomandhour z = lessons(2, 1, 2, 2);
        z.addRule(Roomandhour.APART, 0, 1);
        brokenAt(z, "#.", ".#");
    }

    @Edge(of = "Section 2", says = "AHEAD (4): the last slot of the lesson a is smaller than the first slot of the lesson b.")
    static void aheadAtEachSlot() {
        Roomandhour x = lessons(2, 3, 1, 1);
        x.addRule(Roomandhour.AHEAD, 0, 1);
        brokenAt(x, "#.....", "##....", "###...", "####..", "#####.", "######");
        Roomandhour y = lessons(2, 3, 2, 1);
        y.addRule(Roomandhour.AHEAD, 0, 1);
        brokenAt(y, "##....", "###...", "####..", "#####.", "######", "######");
        y.dropRule(0);
        y.addRule(Roomandhour.AHEAD, 1, 0);
        brokenAt(y, "######", ".#####", "..####", "...###", "....##", ".....#");
    }

    @Edge(of = "Section 2", says = "NEAR (5): the lessons a and b are on one day, and one of them begins in the slot behind the last slot of the other one.")
    static void nearAtEachSlot() {
        Roomandhour x = lessons(2, 3, 1, 1);
        x.addRule(Roomandhour.NEAR, 0, 1);
        brokenAt(x, "#.####", ".#.###", "#.####", "####.#", "###.#.", "####.#");
        Roomandhour y = lessons(2, 3, 2, 1);
        y.addRule(Roomandhour.NEAR, 1, 0);
        // From the slot 2 on over the end of the day: the slot 1 is ahead, the slot 4 is behind, but on another day.
        brokenAt(y, "##.###", ".#####", "#.####", "#####.", "###.##", "####.#");
        Roomandhour z = lessons(2, 1, 1, 1);
        z.addRule(Roomandhour.NEAR, 0, 1);
        brokenAt(z, "##", "##");
    }

    @Edge(of = "Section 2", says = "NEAR (5): the lessons a and b are on one day, and one of them begins in the slot behind the last slot of the other one.")
    static void nearInTwoHours() {
        Roomandhour x = lessons(2, 2, 1, 1);
        x.addRule(Roomandhour.NEAR, 1, 0);
        brokenAt(x, "#.##", ".###", "###.", "##.#");
    }

    @Edge(of = "Section 2", says = "IN_ROOM (6): the lesson a is in the room b.")
    static void inEachRoom() {
        for (int told = 0; told < 3; told++) {
            Roomandhour x = lessons(1, 1, 1);
            x.addRule(Roomandhour.IN_ROOM, 0, told);
            for (int room = 0; room < 3; room++) {
                x.place(0, 0, room);
                due.is(x.broken(), room == told ? 0 : 1, "broken() in the room " + room + ", IN_ROOM " + told);
            }
        }
    }

    @Edge(of = "Section 2", says = "FREE (7): the teacher a has no lesson that covers the slot b.")
    static void freeInEachSlot() {
        for (int slot = 0; slot < 6; slot++) {
            Roomandhour x = wide(2, 3);
            x.addLesson(0, 3, 2);
            x.addLesson(1, 2, 1);
            x.addRule(Roomandhour.FREE, 3, slot);
            for (int begin = 0; begin < 6; begin++) {
                put(x, 10 * begin, 10 * slot);
                boolean covers = begin == slot || begin + 1 == slot;
                due.is(x.broken(), covers ? 1 : 0, "broken() with two slots from " + begin + " on, and FREE " + slot);
            }
        }
    }

    @Edge(of = "Promise 15", says = "Returns the set of rules.")
    static void noneAndAllRulesBroken() {
        Roomandhour x = lessons(2, 3, 1, 1);
        x.first();
        due.is(x.broken(), 0, "broken() without rules");
        for (int k = 0; k < 10; k++) {
            x.addRule(Roomandhour.APART, 0, 1);
            due.is(x.broken(), (2 << k) - 1, "broken() with " + (k + 1) + " rules, all broken");
        }
        x.place(1, 3, 0);
        due.is(x.broken(), 0, "broken() with ten rules, all kept");
    }

    @Edge(of = "Promise 15", says = "Returns the told rules that the present timetable breaks.")
    static void groundRulesAreNotTold() {
        Roomandhour x = full();
        put(x, 0, 0, 0, 0, 0, 0);
        due.is(x.broken(), 0, "broken() where ground rules alone are broken");
        Roomandhour e = new Roomandhour();
        e.first();
        due.is(e.broken(), 0, "broken() without lessons");
    }

    @Edge(of = "Promise 15", says = "IllegalStateException if there is no timetable")
    static void brokenWithoutATimetable() {
        Roomandhour x = full();
        x.setGrid(2, 3);
        due.noState(x, () -> x.broken(), "broken()");
    }

    // ---- groundFaults, rule by rule

    @Edge(of = "Section 2", says = "(a) all slots that a lesson covers are on one day")
    static void faultsOfRuleA() {
        for (int days = 1; days <= 2; days++) {
            for (int hours = 1; hours <= 3; hours++) {
                Roomandhour x = lessons(days, hours, 2);
                Roomandhour y = lessons(days, hours, 1);
                for (int slot = 0; slot < days * hours; slot++) {
                    boolean last = slot == hours - 1 || slot == 2 * hours - 1;
                    x.place(0, slot, 0);
                    y.place(0, slot, 0);
                    due.is(x.groundFaults(), last ? 1 : 0, "groundFaults() of two slots from " + slot + " on, in days of " + hours);
                    due.is(y.groundFaults(), 0, "groundFaults() of the slot " + slot + " alone, in days of " + hours);
                }
            }
        }
    }

    @Edge(of = "Section 2", says = "(b) the room has at least as many seats as the class of the lesson has pupils")
    static void faultsOfRuleB() {
        int[][] pairs = {{1, 1}, {99, 99}, {1, 99}, {2, 1}, {99, 98}, {99, 1}, {50, 50}, {51, 50}};
        for (int[] pair : pairs) {
            Roomandhour x = new Roomandhour();
            x.addRoom(pair[1]);
            x.addLesson(x.addClass(pair[0], 0), x.addTeacher(), 1);
            x.place(0, 0, 0);
            due.is(x.groundFaults(), pair[0] > pair[1] ? 1 : 0, "groundFaults() of " + pair[0] + " pupils on " + pair[1] + " seats");
            due.is(x.first(), pair[0] <= pair[1], "first() of " + pair[0] + " pupils on " + pair[1] + " seats");
        }
    }

    /** Two lessons, the first of two slots, that share what is asked for, at all slots of a day of three. */
    private static void faultsOfPair(Roomandhour x, int roomOfTheSecond) {
        String[] rows = {"##.", ".##"};
        for (int a = 0; a < 2; a++) {
            for (int b = 0; b < 3; b++) {
                put(x, 10 * a, 10 * b + roomOfTheSecond);
                due.is(x.groundFaults(), rows[a].charAt(b) == '#' ? 1 : 0, "groundFaults() in the slots " + a + " and " + b);
            }
        }
    }

    @Edge(of = "Section 2", says = "(c) two lessons of the same class cover no common slot")
    static void faultsOfRuleC() {
        Roomandhour x = wide(1, 3);
        x.addLesson(2, 0, 2);
        x.addLesson(2, 1, 1);
        faultsOfPair(x, 1);
    }

    @Edge(of = "Section 2", says = "(d) nor do two lessons of the same teacher")
    static void faultsOfRuleD() {
        Roomandhour x = wide(1, 3);
        x.addLesson(0, 3, 2);
        x.addLesson(1, 3, 1);
        faultsOfPair(x, 1);
    }

    @Edge(of = "Section 2", says = "(e) nor do two lessons in the same room")
    static void faultsOfRuleE() {
        Roomandhour x = lessons(1, 3, 2, 1);
        faultsOfPair(x, 0);
        put(x, 0, 1);
        due.is(x.groundFaults(), 0, "groundFaults() in one slot, in two rooms");
    }

    @Edge(of = "Promise 16", says = "the pairs of lessons that break (c), (d), (e), each rule counted by itself")
    static void theMostFaults() {
        Roomandhour x = new Roomandhour();
        x.addRoom(1);
        x.addTeacher();
        x.addClass(2, 0);
        for (int k = 0; k < 6; k++) {
            x.addLesson(0, 0, 2);
        }
        for (int k = 0; k < 6; k++) {
            x.place(k, 5, 0);
        }
        due.is(x.groundFaults(), 6 + 6 + 3 * 15, "groundFaults() with all that can be broken");
        for (int k = 0; k < 6; k++) {
            x.place(k, 4, 0);
        }
        due.is(x.groundFaults(), 6 + 3 * 15, "groundFaults() without (a): a pair with two common slots counts once");
    }

    @Edge(of = "Promise 16", says = "Returns how often the present timetable breaks ground rules")
    static void noFaults() {
        Roomandhour e = new Roomandhour();
        e.first();
        due.is(e.groundFaults(), 0, "groundFaults() without lessons");
        Roomandhour x = full();
        due.is(x.groundFaults(), 0, "groundFaults() of a good timetable");
        x.dropRule(9);
        x.addRule(Roomandhour.AT_MOST, 0, 0);
        due.is(x.broken(), 512, "broken()");
        due.is(x.groundFaults(), 0, "groundFaults(): told rules do not count");
    }

    @Edge(of = "Promise 16", says = "IllegalStateException if there is no timetable")
    static void faultsWithoutATimetable() {
        Roomandhour x = new Roomandhour();
        due.noState(x, () -> x.groundFaults(), "groundFaults()");
    }

    @Edge(of = "Promise 16", says = OVER)
    static void overTheEndOfADay() {
        Roomandhour x = lessons(2, 3, 2, 1);
        int[] faults = {1, 1, 2, 2, 1, 1};
        for (int slot = 0; slot < 6; slot++) {
            put(x, 20, 10 * slot);
            due.is(x.groundFaults(), faults[slot], "groundFaults() of two slots from 2 on, and one in " + slot);
        }
        due.is(printed(x, 0, 0), "..0|0..", "the row of its class");
    }

    @Edge(of = "Promise 16", says = OVER)
    static void inTheLastSlotOfAll() {
        for (int days = 1; days <= 2; days++) {
            for (int hours = 1; hours <= 3; hours++) {
                Roomandhour x = lessons(days, hours, 2, 1);
                int last = days * hours - 1;
                for (int slot = 0; slot <= last; slot++) {
                    put(x, 10 * last, 10 * slot);
                    due.is(x.groundFaults(), slot == last ? 2 : 1, "groundFaults() of two slots from " + last + " on, and one in " + slot);
                }
            }
        }
    }

    @Edge(of = "Section 1", says = "the lesson covers this slot and, if its length is 2, the next one")
    static void slotsThatALessonCovers() {
        Roomandhour x = lessons(2, 3, 1, 2);
        for (int slot = 0; slot < 6; slot++) {
            put(x, 10 * slot, 10 * slot + 1);
            for (int other = 0; other < 6; other++) {
                int number = (other == slot ? 1 : 0) + (other == slot || other == slot + 1 ? 1 : 0);
                due.is(x.matched(other), number, "matched(" + other + ") with both lessons from " + slot + " on");
            }
        }
    }

    // ---- image and restore

    @Edge(of = "Promise 17", says = "NONE if there was none, or it had another number of lessons")
    static void imageOfOtherLessons() {
        Roomandhour x = wide(2, 3);
        x.first();
        due.is(x.image(), NONE, "image(): there was none");
        for (int k = 0; k < 6; k++) {
            x.addLesson(k % 4, k % 4, 1);
            x.place(k, 1, 0);
            due.is(x.image(), NONE, "image(): it had " + k + " lessons");
            due.is(x.image(), 0, "image() again");
        }
    }

    @Edge(of = "Promise 17", says = "Returns how many lessons have another value than in the image before")
    static void imageOfNoneAndAllChanged() {
        Roomandhour x = full();
        put(x, 0, 0, 0, 0, 0, 0);
        x.image();
        due.is(x.image(), 0, "image(): no lesson has another value");
        put(x, 10, 1, 2, 20, 30, 52);
        due.is(x.image(), 6, "image(): all lessons have other values");
        put(x, 10, 1, 2, 20, 30, 51);
        due.is(x.image(), 1, "image(): one lesson has another room");
        due.is(x.image(), 0, "image(): the image before is the last one");
    }

    @Edge(of = "Promise 17", says = "IllegalStateException if there is no timetable")
    static void imageWithoutATimetable() {
        Roomandhour x = oneRoom(2, 3, 1);
        due.noState(x, () -> x.image(), "image()");
        due.noState(x, () -> x.restore(), "restore(): no image was kept");
    }

    @Edge(of = "Promise 17", says = "Keeps the present timetable as the image.")
    static void imageOfOneThatIsNotGood() {
        Roomandhour x = oneRoom(1, 3, 2);
        put(x, 20, 20);
        x.image();
        x.first();
        due.is(x.restore(), 2, "restore() of one that is not good");
        stands(x, "it is the present one", 20, 20);
    }

    @Edge(of = "Promise 18", says = "IllegalStateException if there is no image")
    static void restoreWithoutAnImage() {
        Roomandhour x = oneRoom(2, 3, 1);
        due.noState(x, () -> x.restore(), "restore() without image and timetable");
        x.first();
        due.noState(x, () -> x.restore(), "restore() without image");
        Roomandhour e = new Roomandhour();
        due.noState(e, () -> e.restore(), "restore() without lessons and image");
    }

    @Edge(of = "Promise 18", says = "or it has another number of lessons")
    static void restoreOfOtherLessons() {
        Roomandhour x = wide(2, 3);
        x.first();
        x.image();
        x.addLesson(0, 0, 1);
        due.noState(x, () -> x.restore(), "restore() of the image without lessons");
        x.first();
        due.noState(x, () -> x.restore(), "restore() of the image without lessons, with a timetable");
        x.image();
        x.addLesson(1, 1, 1);
        due.noState(x, () -> x.restore(), "restore() of the image of one lesson");
        stands(x.first() ? x : null, "the timetable", 0, 1);
        due.is(x.image(), NONE, "image(): the image had one lesson");
        due.is(x.restore(), 0, "restore() of the image of two lessons");
    }

    @Edge(of = "Promise 18", says = "or a value of it does not exist any more")
    static void restoreOfSlotsThatAreGone() {
        for (int slot = 0; slot < 6; slot++) {
            Roomandhour x = lessons(2, 3, 1, 1);
            put(x, 0, 10 * slot + 2);
            x.image();
            for (int days = 1; days <= 2; days++) {
                for (int hours = 1; hours <= 3; hours++) {
                    x.setGrid(days, hours);
                    if (slot < days * hours) {
                        due.is(x.restore(), NONE, "restore() of the slot " + slot + " in " + days * hours + " slots");
                        stands(x, "the image", 0, 10 * slot + 2);
                    } else {
                        due.noState(x, () -> x.restore(), "restore() of the slot " + slot + " in fewer slots");
                        due.noState(x, () -> x.at(0), "at(0): there is no timetable");
                    }
                }
            }
        }
    }

    @Edge(of = "Promise 18", says = "or a value of it does not exist any more")
    static void restoreWithAnyLessonGone() {
        for (int lesson = 0; lesson < 4; lesson++) {
            Roomandhour x = lessons(2, 2, 1, 1, 1, 1);
            x.place(lesson, 3, 0);
            x.image();
            x.setGrid(1, 3);
            due.noState(x, () -> x.restore(), "restore() with the lesson " + lesson + " in a slot that is gone");
            x.first();
            due.noState(x, () -> x.restore(), "restore() with a timetable");
            stands(x, "it stays", 0, 1, 2, 10);
            x.setGrid(2, 2);
            due.is(x.restore(), NONE, "restore() when the slot is there again");
        }
    }

    @Edge(of = "Promise 18", says = "Returns how many lessons change by that; NONE if there was no timetable.")
    static void restoreOfNoneAndAllChanged() {
        Roomandhour x = full();
        x.image();
        due.is(x.restore(), 0, "restore() of the present timetable");
        for (int k = 0; k < 6; k++) {
            x.place(k, 5, x.at(k) % 10);
        }
        due.is(x.restore(), 6, "restore() where all lessons change");
        due.is(x.groundFaults(), 0, "groundFaults() of the image");
        x.setGrid(2, 3);
        due.is(x.restore(), NONE, "restore() where there was no timetable");
    }

    // ---- print and outputByte

    @Edge(of = "Promise 19", says = "kind: 0 for a class, 1 for a teacher, 2 for a room")
    static void kindOfARow() {
        Roomandhour x = wide(1, 1);
        x.addLesson(1, 2, 1);
        put(x, 0);
        for (int bad : new int[] {-1, 3, MIN, MAX}) {
            due.noArgument(x, () -> x.print(bad, 0), "print(" + bad + ", 0)");
        }
        String[] owners = {".0..", "..0.", "0.."};
        for (int kind = 0; kind < 3; kind++) {
            for (int number = 0; number < owners[kind].length(); number++) {
                due.is(printed(x, kind, number), "" + owners[kind].charAt(number), "print(" + kind + ", " + number + ")");
            }
        }
    }

    @Edge(of = "Promise 19", says = "IndexOutOfBoundsException see section 1")
    static void numberOfARow() {
        Roomandhour x = new Roomandhour();
        x.first();
        for (int kind = 0; kind < 3; kind++) {
            int k = kind;
            due.noIndex(x, () -> x.print(k, 0), "print(" + kind + ", 0) without classes, teachers and rooms");
        }
        x.addRoom(9);
        x.addTeacher();
        x.addTeacher();
        x.addClass(9, NONE);
        x.addClass(9, NONE);
        x.addClass(9, NONE);
        int[] numbers = {3, 2, 1};
        for (int kind = 0; kind < 3; kind++) {
            int k = kind;
            for (int bad : new int[] {-1, numbers[kind], MIN, MAX}) {
                due.noIndex(x, () -> x.print(k, bad), "print(" + kind + ", " + bad + ")");
            }
            due.is(x.print(kind, numbers[kind] - 1), 7, "print(" + kind + ", the last one)");
        }
    }

    @Edge(of = "Promise 19", says = "IllegalStateException if there is no timetable")
    static void printWithoutATimetable() {
        Roomandhour x = full();
        x.setGrid(1, 1);
        for (int kind = 0; kind < 3; kind++) {
            int k = kind;
            due.noState(x, () -> x.print(k, 0), "print(" + kind + ", 0)");
        }
    }

    @Edge(of = "Promise 19", says = "Returns the length of the output.")
    static void leastAndGreatestLength() {
        int[][] lengths = {{1, 2, 3}, {3, 5, 7}};
        for (int days = 1; days <= 2; days++) {
            for (int hours = 1; hours <= 3; hours++) {
                Roomandhour x = lessons(days, hours, 1);
                x.first();
                int length = lengths[days - 1][hours - 1];
                due.is(x.print(1, 3), length, "print(1, 3) in " + days + " days of " + hours);
                due.is(x.outputByte(length - 1), (int) '.', "the last byte");
                due.is(x.outputByte(length), NONE, "the byte behind it");
            }
        }
    }

    @Edge(of = "Promise 19", says = "with a bar between two days")
    static void barBetweenTwoDays() {
        String[] empty = {".", "..", "...", ".|.", "..|..", "...|..."};
        for (int k = 0; k < 6; k++) {
            Roomandhour x = lessons(1 + k / 3, 1 + k % 3, 1);
            x.first();
            due.is(printed(x, 2, 2), empty[k], "an empty row");
        }
    }

    @Edge(of = "Promise 19", says = "for each slot the digit of the lesson with the smallest number that covers it")
    static void smallestNumberAndGreatestNumber() {
        Roomandhour x = full();
        put(x, 0, 0, 0, 0, 0, 0);
        due.is(printed(x, 2, 0), "0..|...", "six lessons in one slot");
        x.place(0, 5, 1);
        due.is(printed(x, 2, 0), "1..|...", "five lessons in one slot");
        put(x, 50, 40, 30, 20, 10, 0);
        due.is(printed(x, 2, 0), "543|210", "all six lessons");
        due.is(printed(x, 0, 1), "5..|.1.", "the lessons of a class, the greatest number first");
    }

    @Edge(of = "Promise 19", says = "or a point if there is none")
    static void rowsOfThingsWithoutLessons() {
        Roomandhour x = lessons(1, 2, 1, 1);
        put(x, 1, 11);
        due.is(printed(x, 0, 3), "..", "a class without lessons");
        due.is(printed(x, 1, 2), "..", "a teacher without lessons");
        due.is(printed(x, 2, 0), "..", "a room without lessons");
        due.is(printed(x, 2, 1), "01", "a room with lessons in each slot");
    }

    @Edge(of = "Promise 19", says = "for each slot the digit of the lesson with the smallest number that covers it")
    static void rowOfALessonOverTheEnd() {
        Roomandhour x = lessons(2, 2, 2);
        String[] rows = {"00|..", ".0|0.", "..|00", "..|.0"};
        for (int slot = 0; slot < 4; slot++) {
            x.place(0, slot, 2);
            due.is(printed(x, 0, 0), rows[slot], "two slots from " + slot + " on, the row of the class");
            due.is(printed(x, 1, 0), rows[slot], "two slots from " + slot + " on, the row of the teacher");
            due.is(printed(x, 2, 2), rows[slot], "two slots from " + slot + " on, the row of the room");
        }
        x.setGrid(1, 1);
        x.place(0, 0, 0);
        due.is(printed(x, 0, 0), "0", "two slots in a grid of one");
    }

    @Edge(of = "Promise 20", says = "Returns the byte; NONE if there is no such byte.")
    static void indexOfAByte() {
        Roomandhour x = lessons(2, 3, 1);
        x.place(0, 5, 0);
        x.print(0, 0);
        due.is(x.outputByte(0), 46, "outputByte(0), a point");
        due.is(x.outputByte(3), 124, "outputByte(3), the bar");
        due.is(x.outputByte(6), 48, "outputByte(6), the digit 0");
        for (int bad : new int[] {-1, 7, 8, MIN, MAX}) {
            due.is(x.outputByte(bad), NONE, "outputByte(" + bad + ")");
        }
    }

    @Edge(of = "Promise 20", says = "NONE if there is no such byte")
    static void noOutput() {
        Roomandhour x = oneRoom(2, 3, 1);
        for (int index : new int[] {-1, 0, 1, MIN, MAX}) {
            due.is(x.outputByte(index), NONE, "outputByte(" + index + ") in a new school");
        }
        due.noState(x, () -> x.print(0, 0), "print(0, 0) without a timetable");
        due.is(x.outputByte(0), NONE, "outputByte(0) behind a print() that was refused");
    }

    @Edge(of = "Promise 20", says = "the output that was written last")
    static void theLastOutput() {
        Roomandhour x = oneRoom(2, 3, 2);
        put(x, 0, 10);
        x.print(0, 1);
        due.is(row(x), ".1.|...", "the first output");
        x.print(0, 0);
        due.is(row(x), "0..|...", "the second output");
        due.noIndex(x, () -> x.print(0, 2), "print(0, 2)");
        due.noArgument(x, () -> x.print(3, 0), "print(3, 0)");
        put(x, 50, 50);
        x.setGrid(1, 1);
        due.noState(x, () -> x.print(0, 0), "print(0, 0) without a timetable");
        due.is(row(x), "0..|...", "the output stays");
        put(x, 0, 0);
        x.print(1, 1);
        due.is(row(x), "1", "a shorter output");
        due.is(x.outputByte(1), NONE, "outputByte(1): nothing is left of the longer one");
    }
}
