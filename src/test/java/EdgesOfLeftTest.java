/** The boundary cases of promises 9 and 10, and of section 3. */
public final class EdgesOfLeftTest extends Schools {
    private static final String AT_FIRST = "those with which it keeps the ground rules (a) and (b)";
    private static final String ALONE = "the told rules that name this lesson alone, or its teacher with FREE";
    private static final String PAIRS = "A value is taken away if some other lesson has no value left with which both together keep the ground rules (c) to (e) and all told rules that name both of them.";
    private static final String AS_MANY = "together as many as the sum of their lengths, then from each other lesson of this class, or teacher, the values are taken away that cover one of these slots";
    private static final String FEWER = "if they are fewer than the sum, all values of all lessons are taken away";

    public static void main(String[] args) throws Exception {
        Edges.run(EdgesOfLeftTest.class, Edges.promises(9, 10, "Section 3", "Section 1"));
    }

    // ---- left and leftAt

    @Edge(of = "Promise 9", says = "lesson: a lesson")
    static void lessonOfLeft() {
        Roomandhour x = wide(2, 3);
        for (int k = 0; k <= 6; k++) {
            for (int bad : new int[] {-1, k, 6, MIN, MAX}) {
                due.noIndex(x, () -> x.left(bad), "left(" + bad + ") with " + k + " lessons");
            }
            if (k < 6) {
                x.addLesson(k % 4, k % 4, 1);
                due.is(x.left(k), 18, "left(" + k + "), the last lesson");
            }
        }
    }

    @Edge(of = "Promise 9", says = "Returns how many values of a lesson are left (section 3).")
    static void noneOneAndAll() {
        Roomandhour x = wide(2, 3);
        x.addLesson(0, 0, 1);
        due.is(x.left(0), 18, "left(0): all slots and rooms");
        Roomandhour y = oneRoom(1, 1, 1);
        due.is(y.left(0), 1, "left(0): one slot and one room");
        y.addRule(Roomandhour.FREE, 0, 0);
        due.is(y.left(0), 0, "left(0): none");
        Roomandhour z = new Roomandhour();
        z.addLesson(z.addClass(1, NONE), z.addTeacher(), 1);
        due.is(z.left(0), 0, "left(0) without rooms");
    }

    @Edge(of = "Promise 10", says = "lesson: a lesson")
    static void lessonOfLeftAt() {
        Roomandhour x = new Roomandhour();
        due.noIndex(x, () -> x.leftAt(0, 0), "leftAt(0, 0) without lessons");
        x.addRoom(9);
        x.addLesson(x.addClass(9, NONE), x.addTeacher(), 1);
        for (int bad : new int[] {-1, 1, 6, MIN, MAX}) {
            due.noIndex(x, () -> x.leftAt(bad, 0), "leftAt(" + bad + ", 0)");
        }
        due.is(x.leftAt(0, 0), 0, "leftAt(0, 0)");
    }

    @Edge(of = "Promise 10", says = "NoSuchElementException if there is no such value")
    static void indexOfLeftAt() {
        for (int hours = 1; hours <= 3; hours++) {
            Roomandhour x = wide(2, hours);
            x.addLesson(0, 0, 1);
            int number = 6 * hours;
            due.is(x.leftAt(0, 0), 0, "leftAt(0, 0)");
            due.is(x.leftAt(0, number - 1), 10 * (2 * hours - 1) + 2, "leftAt(0, " + (number - 1) + "), the last one");
            for (int bad : new int[] {-1, number, number + 1, MIN, MAX}) {
                due.noElement(x, () -> x.leftAt(0, bad), "leftAt(0, " + bad + ") of " + number);
            }
        }
    }

    @Edge(of = "Promise 10", says = "NoSuchElementException if there is no such value")
    static void nothingLeft() {
        Roomandhour x = lessons(2, 1, 2, 1);
        for (int lesson = 0; lesson < 2; lesson++) {
            int k = lesson;
            for (int index : new int[] {-1, 0, 1, MIN, MAX}) {
                due.noElement(x, () -> x.leftAt(k, index), "leftAt(" + k + ", " + index + ") when nothing is left");
            }
        }
    }

    @Edge(of = "Promise 10", says = "index: 0 for the smallest one")
    static void orderOfValues() {
        Roomandhour x = wide(1, 3);
        x.addLesson(0, 0, 1);
        leaves(x, "all of a day", 0, 0, 1, 2, 10, 11, 12, 20, 21, 22);
        x.addRule(Roomandhour.NOT_THEN, 0, 1);
        leaves(x, "without the slot in the middle", 0, 0, 1, 2, 20, 21, 22);
        x.addRule(Roomandhour.IN_ROOM, 0, 2);
        leaves(x, "in the last room", 0, 2, 22);
    }

    @Edge(of = "Section 1", says = "The values are ordered by the slot, then by the room.")
    static void slotBeforeRoom() {
        Roomandhour x = wide(2, 1);
        x.addLesson(0, 0, 1);
        leaves(x, "two slots of one hour", 0, 0, 1, 2, 10, 11, 12);
    }

    // ---- at first

    @Edge(of = "Section 3", says = AT_FIRST)
    static void valuesOnOneDay() {
        for (int days = 1; days <= 2; days++) {
            for (int hours = 1; hours <= 3; hours++) {
                Roomandhour x = wide(days, hours);
                x.addLesson(0, 0, 2);
                due.is(x.left(0), 3 * days * (hours - 1), "left(0) in " + days + " days of " + hours + " hours");
            }
        }
        Roomandhour y = wide(2, 2);
        y.addLesson(0, 0, 2);
        leaves(y, "not over the end of a day, nor in the last slot", 0, 0, 1, 2, 20, 21, 22);
    }

    @Edge(of = "Section 3", says = AT_FIRST)
    static void valuesWithSeats() {
        for (int seats : new int[] {1, 2, 50, 98}) {
            Roomandhour x = new Roomandhour();
            x.setGrid(1, 1);
            x.addRoom(seats);
            x.addTeacher();
            x.addLesson(x.addClass(seats, NONE), 0, 1);
            due.is(x.left(0), 1, "left(0): as many seats as pupils, " + seats);
            Roomandhour y = new Roomandhour();
            y.setGrid(1, 1);
            y.addRoom(seats);
            y.addTeacher();
            y.addLesson(y.addClass(seats + 1, NONE), 0, 1);
            due.is(y.left(0), 0, "left(0): one seat less than pupils, " + seats);
            y.addRoom(seats + 1);
            leaves(y, "in another room", 0, 1);
        }
    }

    @Edge(of = "Section 3", says = ALONE)
    static void valuesWithNotThen() {
        Roomandhour x = oneRoom(1, 3, 1);
        x.addClass(20, NONE);
        x.addTeacher();
        x.addLesson(1, 1, 2);
        x.addRule(Roomandhour.NOT_THEN, 1, 0);
        leaves(x, "not the first slot", 1, 10);
        x.dropRule(0);
        x.addRule(Roomandhour.NOT_THEN, 1, 2);
        leaves(x, "not the last slot", 1, 0);
        x.dropRule(0);
        due.is(x.left(1), 2, "left(1) without rules");
        for (int slot = 0; slot < 3; slot++) {
            x.addRule(Roomandhour.NOT_THEN, 0, slot);
        }
        due.is(x.left(0), 0, "left(0): no slot");
        due.is(x.left(1), 0, "left(1): no value goes with one of the lesson 0");
    }

    @Edge(of = "Section 3", says = ALONE)
    static void valuesWithInRoom() {
        Roomandhour x = wide(1, 1);
        x.addLesson(0, 0, 1);
        x.addRule(Roomandhour.IN_ROOM, 0, 2);
        leaves(x, "in the last room", 0, 2);
        x.addRule(Roomandhour.IN_ROOM, 0, 2);
        leaves(x, "in the last room, told twice", 0, 2);
        x.addRule(Roomandhour.IN_ROOM, 0, 0);
        due.is(x.left(0), 0, "left(0) in two rooms");
    }

    @Edge(of = "Section 3", says = ALONE)
    static void valuesWithFree() {
        Roomandhour x = wide(1, 3);
        x.addLesson(0, 0, 2);
        x.addLesson(1, 1, 1);
        x.addRule(Roomandhour.FREE, 0, 2);
        leaves(x, "its teacher is free in the last slot", 0, 0, 1, 2);
        due.is(x.left(1), 9, "left(1): the lesson of another teacher");
        x.addRule(Roomandhour.FREE, 3, 0);
        leaves(x, "a teacher without lessons is free", 0, 0, 1, 2);
        x.addRule(Roomandhour.FREE, 0, 1);
        due.is(x.left(0), 0, "left(0): its teacher is free in the slot in the middle too");
    }

    @Edge(of = "Section 3", says = ALONE)
    static void atMostNamesNoLesson() {
        Roomandhour x = oneRoom(1, 3, 2);
        x.addRule(Roomandhour.AT_MOST, 0, 0);
        due.is(x.left(0), 3, "left(0): AT_MOST takes no value away");
        due.is(x.bound(), 0, "bound()");
        due.is(x.first(), false, "first(): but no timetable keeps it");
    }

    // ---- by pairs

    @Edge(of = "Section 3", says = PAIRS)
    static void pairsOfAClass() {
        Roomandhour x = wide(1, 2);
        x.addLesson(0, 0, 1);
        x.addLesson(0, 1, 1);
        due.is(x.left(0), 6, "left(0): the other lesson of the class can be in the other slot");
        x.addRule(Roomandhour.NOT_THEN, 1, 0);
        leaves(x, "the other lesson must be in the last slot", 0, 0, 1, 2);
        x.addRule(Roomandhour.NOT_THEN, 0, 0);
        due.is(x.left(0) + x.left(1), 0, "left(0) + left(1): both must be in the last slot");
    }

    @Edge(of = "Section 3", says = PAIRS)
    static void pairsOfATeacher() {
        Roomandhour x = wide(1, 2);
        x.addLesson(0, 0, 1);
        x.addLesson(1, 0, 1);
        x.addRule(Roomandhour.NOT_THEN, 1, 0);
        leaves(x, "the other lesson of the teacher must be in the last slot", 0, 0, 1, 2);
        x.addRule(Roomandhour.NOT_THEN, 0, 0);
        due.is(x.left(0) + x.left(1), 0, "left(0) + left(1): both must be in the last slot");
    }

    @Edge(of = "Section 3", says = PAIRS)
    static void pairsOfARoom() {
        Roomandhour x = oneRoom(1, 2, 2);
        x.addRoom(30);
        x.addRule(Roomandhour.IN_ROOM, 1, 1);
        x.addRule(Roomandhour.NOT_THEN, 1, 0);
        leaves(x, "one value is taken by the other lesson", 0, 0, 1, 10);
        x.addRule(Roomandhour.IN_ROOM, 0, 1);
        leaves(x, "the slot ahead of it is left in this room", 0, 1);
        x.addRule(Roomandhour.NOT_THEN, 0, 0);
        due.is(x.left(0) + x.left(1), 0, "left(0) + left(1): both must be in one room in one slot");
    }

    @Edge(of = "Section 3", says = PAIRS)
    static void pairsByTheSecondSlot() {
        Roomandhour x = wide(1, 3);
        x.addLesson(0, 0, 2);
        x.addLesson(0, 1, 1);
        leaves(x, "the slot in the middle is always covered", 1, 0, 1, 2, 20, 21, 22);
        due.is(x.left(0), 6, "left(0)");
        Roomandhour y = wide(1, 2);
        y.addLesson(0, 0, 2);
        y.addLesson(0, 1, 1);
        due.is(y.left(0) + y.left(1), 0, "left(0) + left(1): no slot is left for the other one");
    }

    @Edge(of = "Section 3", says = PAIRS)
    static void pairsWithTogether() {
        Roomandhour x = lessons(1, 3, 1, 2);
        x.addRule(Roomandhour.TOGETHER, 0, 1);
        leaves(x, "where the lesson of two slots can begin", 0, 0, 1, 2, 10, 11, 12);
        x.addRule(Roomandhour.NOT_THEN, 0, 0);
        leaves(x, "where the lesson of one slot can be", 1, 10, 11, 12);
    }

    @Edge(of = "Section 3", says = PAIRS)
    static void pairsWithApart() {
        Roomandhour x = lessons(2, 1, 1, 1);
        x.addRule(Roomandhour.APART, 1, 0);
        due.is(x.left(0), 6, "left(0) in two days");
        x.addRule(Roomandhour.NOT_THEN, 1, 0);
        leaves(x, "the other one must be on the second day", 0, 0, 1, 2);
        Roomandhour y = lessons(1, 3, 1, 1);
        y.addRule(Roomandhour.APART, 0, 1);
        due.is(y.left(0) + y.left(1), 0, "left(0) + left(1) in one day");
    }

    @Edge(of = "Section 3", says = PAIRS)
    static void pairsWithAhead() {
        Roomandhour x = lessons(1, 3, 2, 1);
        x.addRule(Roomandhour.AHEAD, 0, 1);
        leaves(x, "the lesson ahead", 0, 0, 1, 2);
        leaves(x, "the lesson behind", 1, 20, 21, 22);
        Roomandhour y = lessons(1, 1, 1, 1);
        y.addRule(Roomandhour.AHEAD, 0, 1);
        due.is(y.left(0) + y.left(1), 0, "left(0) + left(1) in one slot");
        y.setGrid(2, 1);
        leaves(y, "the lesson ahead in two slots", 0, 0, 1, 2);
        leaves(y, "the lesson behind in two slots", 1, 10, 11, 12);
    }

    @Edge(of = "Section 3", says = PAIRS)
    static void pairsWithNear() {
        Roomandhour x = lessons(1, 3, 1, 1);
        x.addRule(Roomandhour.NEAR, 0, 1);
        due.is(x.left(0), 9, "left(0): each slot has a neighbour");
        x.addRule(Roomandhour.NOT_THEN, 1, 1);
        leaves(x, "between the others", 0, 10, 11, 12);
        Roomandhour y = lessons(2, 1, 1, 1);
        y.addRule(Roomandhour.NEAR, 0, 1);
        due.is(y.left(0) + y.left(1), 0, "left(0) + left(1): the slot behind is on another day");
    }

    @Edge(of = "Section 3", says = PAIRS)
    static void allRulesThatNameBoth() {
        Roomandhour x = lessons(2, 3, 1, 1);
        x.addRule(Roomandhour.AHEAD, 0, 1);
        x.addRule(Roomandhour.NEAR, 1, 0);
        leaves(x, "ahead and near", 0, 0, 1, 2, 10, 11, 12, 30, 31, 32, 40, 41, 42);
        x.addRule(Roomandhour.APART, 0, 1);
        due.is(x.left(0) + x.left(1), 0, "left(0) + left(1): near and apart");
        Roomandhour y = oneRoom(2, 3, 2);
        y.addRule(Roomandhour.TOGETHER, 0, 1);
        due.is(y.left(0) + y.left(1), 0, "left(0) + left(1): together in one room");
    }

    @Edge(of = "Section 3", says = PAIRS)
    static void aLessonWithoutValues() {
        Roomandhour x = lessons(2, 3, 1, 1, 1);
        x.addRule(Roomandhour.IN_ROOM, 2, 0);
        x.addRule(Roomandhour.IN_ROOM, 2, 1);
        for (int lesson = 0; lesson < 3; lesson++) {
            due.is(x.left(lesson), 0, "left(" + lesson + "): the lesson 2 has no value left");
        }
        x.dropRule(0);
        due.is(x.left(0), 18, "left(0): behind dropRule");
    }

    @Edge(of = "Section 3", says = PAIRS)
    static void threeTogetherAreNotLookedAt() {
        Roomandhour x = oneRoom(1, 2, 3);
        for (int lesson = 0; lesson < 3; lesson++) {
            due.is(x.left(lesson), 2, "left(" + lesson + "): three lessons in two slots of one room, each two go together");
        }
        due.is(x.first(), false, "first()");
    }

    // ---- by sets of lessons of one class, or of one teacher

    /** Lessons of length 1 of one class, with teachers of their own, or of one teacher, with classes of their own. */
    private static Roomandhour group(int days, int hours, boolean ofClass, int number) {
        Roomandhour x = wide(days, hours);
        for (int k = 0; k < number; k++) {
            x.addLesson(ofClass ? 0 : k % 4, ofClass ? k % 4 : 0, 1);
        }
        return x;
    }

    private static void bar(Roomandhour x, int slot, int... lessons) {
        for (int lesson : lessons) {
            x.addRule(Roomandhour.NOT_THEN, lesson, slot);
        }
    }

    @Edge(of = "Section 3", says = AS_MANY)
    static void asManySlotsAsTheSum() {
        for (int k = 0; k < 2; k++) {
            Roomandhour x = group(1, 3, k == 0, 3);
            bar(x, 2, 0);
            due.is(x.left(2), 9, "left(2): two lessons have one slot more than their sum");
            bar(x, 2, 1);
            leaves(x, "two lessons have as many slots as their sum", 2, 20, 21, 22);
            due.is(x.left(0) + x.left(1), 12, "left(0) + left(1): theirs stay");
        }
    }

    @Edge(of = "Section 3", says = AS_MANY)
    static void asManySlotsAsAllOfTheGroup() {
        for (int k = 0; k < 2; k++) {
            Roomandhour x = group(1, 3, k == 0, 3);
            for (int lesson = 0; lesson < 3; lesson++) {
                due.is(x.left(lesson), 9, "left(" + lesson + "): three lessons in three slots take nothing from each other");
            }
        }
    }

    @Edge(of = "Section 3", says = AS_MANY)
    static void oneLessonIsASetToo() {
        for (int k = 0; k < 2; k++) {
            Roomandhour x = group(2, 1, k == 0, 2);
            bar(x, 0, 1);
            leaves(x, "the other lesson has one slot", 0, 0, 1, 2);
        }
    }

    @Edge(of = "Section 3", says = AS_MANY)
    static void threeLessonsInThreeOfFourSlots() {
        for (int k = 0; k < 2; k++) {
            Roomandhour x = group(2, 2, k == 0, 4);
            bar(x, 3, 0, 1);
            due.is(x.left(3), 12, "left(3): the lesson 2 has all slots");
            bar(x, 3, 2);
            leaves(x, "three lessons have three slots", 3, 30, 31, 32);
        }
    }

    @Edge(of = "Section 3", says = "the slots that the values left of these lessons cover are together as many as the sum of their lengths")
    static void lengthsCount() {
        for (int k = 0; k < 2; k++) {
            Roomandhour x = wide(2, 3);
            for (int lesson = 0; lesson < 3; lesson++) {
                x.addLesson(k == 0 ? 0 : lesson, k == 0 ? lesson : 0, lesson == 2 ? 1 : 2);
            }
            x.addLesson(3, 3, 1);
            bar(x, 2, 0, 1);
            bar(x, 5, 0);
            due.is(x.left(2), 18, "left(2): the others have five slots for four");
            bar(x, 5, 1);
            leaves(x, "the others have four slots for four", 2, 20, 21, 22, 50, 51, 52);
            due.is(x.left(3), 18, "left(3): another class and teacher");
        }
    }

    @Edge(of = "Section 3", says = AS_MANY)
    static void valuesThatCoverOneOfTheseSlots() {
        Roomandhour x = wide(2, 3);
        x.addLesson(0, 0, 1);
        x.addLesson(0, 1, 1);
        x.addLesson(0, 2, 2);
        // The lessons 0 and 1 have the slots 0 and 4: each value of the lesson 2 that covers one of them goes.
        for (int slot : new int[] {1, 2, 3, 5}) {
            bar(x, slot, 0, 1);
        }
        leaves(x, "behind the slot 0, and not in the slot 4", 2, 10, 11, 12);
    }

    @Edge(of = "Section 3", says = AS_MANY)
    static void othersOfTheClassAlone() {
        Roomandhour x = wide(1, 3);
        x.addLesson(0, 0, 1);
        x.addLesson(0, 1, 1);
        x.addLesson(1, 2, 1);
        bar(x, 2, 0, 1);
        due.is(x.left(2), 9, "left(2): a lesson of another class and teacher");
        x.addLesson(1, 0, 1);
        due.is(x.left(3), 9, "left(3): a lesson of the class of the lesson 2 and of the teacher of the lesson 0");
    }

    @Edge(of = "Section 3", says = "For each set of lessons of one class, or of one teacher")
    static void notOfSeveralClassesAndTeachers() {
        Roomandhour x = lessons(1, 2, 1, 1, 1);
        for (int lesson = 0; lesson < 3; lesson++) {
            due.is(x.left(lesson), 6, "left(" + lesson + "): three lessons in two slots, of three classes and teachers");
        }
        Roomandhour y = wide(1, 2);
        y.addLesson(0, 0, 1);
        y.addLesson(0, 1, 1);
        y.addLesson(1, 1, 1);
        for (int lesson = 0; lesson < 3; lesson++) {
            due.is(y.left(lesson), 6, "left(" + lesson + "): two of a class, two of a teacher");
        }
        due.is(y.first(), true, "first()");
    }

    @Edge(of = "Section 3", says = FEWER)
    static void fewerSlotsThanTheSum() {
        for (int k = 0; k < 2; k++) {
            Roomandhour x = group(1, 3, k == 0, 3);
            x.addLesson(3, 3, 1);
            bar(x, 2, 0, 1);
            due.is(x.left(3), 9, "left(3): as many slots as the sum");
            bar(x, 2, 2);
            for (int lesson = 0; lesson < 4; lesson++) {
                due.is(x.left(lesson), 0, "left(" + lesson + "): fewer slots than the sum");
            }
            due.is(x.bound(), NONE, "bound()");
        }
    }

    @Edge(of = "Section 3", says = FEWER)
    static void fewerSlotsInAllThanTheSum() {
        for (int k = 0; k < 2; k++) {
            Roomandhour x = group(2, 2, k == 0, 4);
            due.is(x.left(0), 12, "left(0): four lessons in four slots");
            x.addLesson(0, 0, 1);
            for (int lesson = 0; lesson < 5; lesson++) {
                due.is(x.left(lesson), 0, "left(" + lesson + "): five lessons in four slots");
            }
            x.setGrid(2, 3);
            due.is(x.left(0), 18, "left(0): five lessons in six slots");
        }
    }

    @Edge(of = "Section 3", says = FEWER)
    static void fewerSlotsByLengths() {
        Roomandhour x = wide(2, 3);
        for (int k = 0; k < 3; k++) {
            x.addLesson(0, k, 2);
        }
        x.addLesson(1, 3, 1);
        bar(x, 5, 0, 1);
        due.is(x.left(3), 18, "left(3): the lesson 2 has the sixth slot");
        bar(x, 5, 2);
        due.is(x.left(3), 0, "left(3): three lessons of two slots in five slots");
    }

    @Edge(of = "Section 3", says = "Then the following is done as long as it takes a value away")
    static void oneThingBehindAnother() {
        // The lessons 0 and 1 of a class fill the slots 0 and 1, so that 2 is in the slot 2, so that 3 is ahead of it,
        // so that 4 is in the slot that 3 leaves, and so on: each step needs the one before.
        Roomandhour x = wide(1, 3);
        x.addLesson(0, 0, 1);
        x.addLesson(0, 1, 1);
        x.addLesson(0, 2, 1);
        x.addLesson(1, 3, 1);
        x.addLesson(2, 3, 1);
        x.addLesson(3, 1, 1);
        x.addRule(Roomandhour.TOGETHER, 4, 2);
        x.addRule(Roomandhour.NEAR, 3, 4);
        x.addRule(Roomandhour.AHEAD, 5, 3);
        bar(x, 2, 0);
        due.is(x.left(5) > 3, true, "left(5) while the lesson 1 can be in the slot 2");
        bar(x, 2, 1);
        leaves(x, "the lesson 2", 2, 20, 21, 22);
        leaves(x, "the lesson 4 with it", 4, 20, 21, 22);
        leaves(x, "the lesson 3 beside that", 3, 10, 11, 12);
        leaves(x, "the lesson 5 ahead of that", 5, 0, 1, 2);
        leaves(x, "the lesson 1, of the teacher of the lesson 5", 1, 10, 11, 12);
        leaves(x, "the lesson 0, of the class of the lesson 1", 0, 0, 1, 2);
    }
}
