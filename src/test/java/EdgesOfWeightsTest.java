/** The boundary cases of promises 27 to 31, of section 4, and of the rings in section 5. */
public final class EdgesOfWeightsTest extends Schools {
    private static final String LATE = "the sum, over all lessons, of the hour (not the slot) of the last slot that they cover";
    private static final String ROOMS = "the number of lessons that are not in the home room of their class (a class without a home room does not count)";
    private static final String GAP = "A gap is a slot that a teacher has free between two slots of the same day in which the teacher has lessons.";
    private static final String RING = "A ring is a row of 2 to 4 different lessons with the same length.";
    private static final String TIES = "of several the one with the smallest length, then the smallest in lexicographic order";

    public static void main(String[] args) throws Exception {
        Edges.run(EdgesOfWeightsTest.class, Edges.promises(27, 31, "Section 4", "Section 5"));
    }

    /** Three rooms, and a class with each of these home rooms (or NONE) and a teacher for it. */
    private static Roomandhour homes(int days, int hours, int... homes) {
        Roomandhour x = new Roomandhour();
        x.setGrid(days, hours);
        for (int k = 0; k < 3; k++) {
            x.addRoom(30);
        }
        for (int home : homes) {
            x.addClass(20, home);
            x.addTeacher();
        }
        return x;
    }

    /** As homes, with a lesson of length 1 for each class. */
    private static Roomandhour atHome(int days, int hours, int... homes) {
        Roomandhour x = homes(days, hours, homes);
        for (int k = 0; k < homes.length; k++) {
            x.addLesson(k, k, 1);
        }
        return x;
    }

    // ---- setWeights

    @Edge(of = "Promise 27", says = "late: 0 to 9")
    static void weightOfLateHours() {
        Roomandhour x = atHome(1, 3, 0);
        put(x, 21);
        for (int bad : new int[] {-1, 10, -9, MIN, MAX}) {
            due.noArgument(x, () -> x.setWeights(bad, 0, 0), "setWeights(" + bad + ", 0, 0)");
        }
        for (int late = 0; late <= 9; late += 9) {
            x.setWeights(late, 0, 0);
            due.is(x.weight(), 2 * late, "weight() with the weight of late hours " + late);
        }
    }

    @Edge(of = "Promise 27", says = "rooms: 0 to 9")
    static void weightOfRooms() {
        Roomandhour x = atHome(1, 3, 0);
        put(x, 21);
        for (int bad : new int[] {-1, 10, -9, MIN, MAX}) {
            due.noArgument(x, () -> x.setWeights(0, bad, 0), "setWeights(0, " + bad + ", 0)");
        }
        for (int rooms = 0; rooms <= 9; rooms += 9) {
            x.setWeights(0, rooms, 0);
            due.is(x.weight(), rooms, "weight() with the weight of rooms " + rooms);
        }
    }

    @Edge(of = "Promise 27", says = "gaps: 0 to 9")
    static void weightOfGaps() {
        Roomandhour x = homes(1, 3, 0);
        x.addLesson(0, 0, 1);
        x.addLesson(0, 0, 1);
        put(x, 1, 21);
        for (int bad : new int[] {-1, 10, -9, MIN, MAX}) {
            due.noArgument(x, () -> x.setWeights(0, 0, bad), "setWeights(0, 0, " + bad + ")");
        }
        for (int gaps = 0; gaps <= 9; gaps += 9) {
            x.setWeights(0, 0, gaps);
            due.is(x.weight(), gaps, "weight() with the weight of gaps " + gaps);
        }
    }

    @Edge(of = "Promise 27", says = "Returns the weight of late hours before.")
    static void weightBefore() {
        Roomandhour x = new Roomandhour();
        due.is(x.setWeights(0, 9, 9), 1, "setWeights(0, 9, 9): the weight at first");
        due.is(x.setWeights(9, 0, 0), 0, "setWeights(9, 0, 0): the least weight");
        due.noArgument(x, () -> x.setWeights(10, 0, 0), "setWeights(10, 0, 0)");
        due.noArgument(x, () -> x.setWeights(5, -1, 0), "setWeights(5, -1, 0)");
        due.noArgument(x, () -> x.setWeights(5, 0, -1), "setWeights(5, 0, -1)");
        due.is(x.setWeights(9, 9, 9), 9, "setWeights(9, 9, 9): the greatest weight, and refused ones between");
        due.is(x.setWeights(1, 1, 1), 9, "setWeights(1, 1, 1): the same weight again");
    }

    @Edge(of = "Promise 27", says = "Throws IllegalArgumentException see section 1")
    static void refusedWeightsChangeNone() {
        Roomandhour x = homes(1, 3, 0);
        x.addLesson(0, 0, 1);
        x.addLesson(0, 0, 1);
        put(x, 1, 20);
        x.setWeights(3, 5, 7);
        due.is(x.weight(), 3 * 2 + 5 + 7, "weight()");
        due.noArgument(x, () -> x.setWeights(0, 0, 10), "setWeights(0, 0, 10)");
        due.noArgument(x, () -> x.setWeights(0, 10, 0), "setWeights(0, 10, 0)");
        due.noArgument(x, () -> x.setWeights(10, 0, 0), "setWeights(10, 0, 0)");
        due.noArgument(x, () -> x.setWeights(-1, -1, -1), "setWeights(-1, -1, -1)");
        due.is(x.weight(), 3 * 2 + 5 + 7, "weight() behind refused weights");
    }

    @Edge(of = "Section 4", says = "The three weights are 1, 1 and 1 at first.")
    static void weightsAtFirst() {
        Roomandhour x = atHome(1, 3, 0);
        put(x, 20);
        due.is(x.weight(), 2, "weight() of a late hour");
        put(x, 1);
        due.is(x.weight(), 1, "weight() of a room");
        Roomandhour y = homes(1, 3, NONE);
        y.addLesson(0, 0, 1);
        y.addLesson(0, 0, 1);
        put(y, 0, 20);
        due.is(y.weight(), 3, "weight() of a late hour and a gap");
    }

    // ---- weight

    @Edge(of = "Promise 28", says = "IllegalStateException if there is no timetable")
    static void weightWithoutATimetable() {
        Roomandhour x = atHome(2, 3, 0);
        due.noState(x, () -> x.weight(), "weight()");
        x.setWeights(0, 0, 0);
        due.noState(x, () -> x.weight(), "weight() with weights of 0");
    }

    @Edge(of = "Promise 28", says = "Returns the weight.")
    static void leastAndGreatestWeight() {
        Roomandhour e = new Roomandhour();
        e.first();
        e.setWeights(9, 9, 9);
        due.is(e.weight(), 0, "weight() without lessons");
        Roomandhour x = homes(2, 3, 0, 0, 0, 0);
        for (int k = 0; k < 6; k++) {
            x.addLesson(k % 4, k / 2, 1);
        }
        x.setWeights(9, 9, 9);
        put(x, 0, 30, 0, 30, 0, 30);
        due.is(x.weight(), 0, "weight(): first hours at home");
        put(x, 1, 21, 1, 21, 1, 21);
        due.is(x.weight(), 9 * 6 + 9 * 6 + 9 * 3, "weight(): three late hours, six rooms, three gaps");
        put(x, 21, 51, 21, 51, 21, 51);
        due.is(x.weight(), 9 * 12 + 9 * 6, "weight(): six late hours, six rooms");
        x.setWeights(0, 0, 0);
        due.is(x.weight(), 0, "weight() with weights of 0");
    }

    @Edge(of = "Section 4", says = LATE)
    static void hoursOfEachSlot() {
        for (int hours = 1; hours <= 3; hours++) {
            Roomandhour x = lessons(2, hours, 1);
            x.setWeights(1, 0, 0);
            for (int slot = 0; slot < 2 * hours; slot++) {
                x.place(0, slot, 0);
                due.is(x.weight(), slot < hours ? slot : slot - hours, "weight() in the slot " + slot + ", days of " + hours);
            }
        }
    }

    @Edge(of = "Section 4", says = LATE)
    static void hourOfTheLastOfTwoSlots() {
        Roomandhour x = lessons(2, 3, 2);
        x.setWeights(1, 0, 0);
        // Over the end of the first day the last slot is the first hour of the second day.
        int[] hours = {1, 2, 0, 1, 2, 2};
        for (int slot = 0; slot < 6; slot++) {
            x.place(0, slot, 0);
            due.is(x.weight(), hours[slot], "weight() of two slots from " + slot + " on");
        }
        x.setGrid(1, 2);
        x.place(0, 1, 0);
        due.is(x.weight(), 1, "weight() of two slots in the last slot of one day");
    }

    @Edge(of = "Section 4", says = ROOMS)
    static void roomsAtHomeAndNot() {
        int[] homes = {NONE, 0, 1, 2};
        for (int room = 0; room < 3; room++) {
            Roomandhour x = atHome(1, 1, homes);
            x.setWeights(0, 1, 0);
            put(x, room, room, room, room);
            due.is(x.weight(), 2, "weight() with all in the room " + room + ": one at home, one without a home");
        }
    }

    @Edge(of = "Section 4", says = GAP)
    static void gapsOfEachDay() {
        Roomandhour x = homes(2, 3, NONE, NONE);
        for (int k = 0; k < 4; k++) {
            x.addLesson(k % 2, 0, 1);
        }
        x.setWeights(0, 0, 1);
        int[][] tables = {{0, 20, 30, 50}, {0, 20, 20, 20}, {0, 10, 20, 30}, {0, 10, 40, 50}, {20, 30, 20, 30}, {0, 50, 0, 50}, {0, 20, 40, 40}};
        int[] gaps = {2, 1, 0, 0, 0, 0, 1};
        for (int k = 0; k < tables.length; k++) {
            put(x, tables[k]);
            due.is(x.weight(), gaps[k], "weight() of the gaps of the table " + k);
        }
    }

    @Edge(of = "Section 4", says = GAP)
    static void gapsOfEachTeacher() {
        Roomandhour x = homes(1, 3, NONE, NONE);
        for (int k = 0; k < 4; k++) {
            x.addLesson(k % 2, k / 2, 1);
        }
        x.setWeights(0, 0, 1);
        put(x, 0, 20, 10, 10);
        due.is(x.weight(), 1, "weight(): another teacher in the slot that is free");
        put(x, 0, 20, 20, 0);
        due.is(x.weight(), 2, "weight(): a gap of each teacher");
        x.setGrid(2, 2);
        put(x, 0, 10, 20, 30);
        due.is(x.weight(), 0, "weight(): days of two hours have no gaps");
        put(x, 10, 30, 0, 20);
        due.is(x.weight(), 0, "weight(): a slot between two days is none of the same day");
    }

    @Edge(of = "Section 4", says = GAP)
    static void gapsAndLessonsOfTwoSlots() {
        Roomandhour x = homes(2, 3, NONE, NONE);
        x.addLesson(0, 0, 2);
        x.addLesson(1, 0, 1);
        x.setWeights(0, 0, 1);
        put(x, 0, 20);
        due.is(x.weight(), 0, "weight(): the second slot fills the day");
        put(x, 20, 50);
        due.is(x.weight(), 1, "weight(): over the end of a day, free in the slot 4");
        put(x, 20, 0);
        due.is(x.weight(), 1, "weight(): over the end of a day, free in the slot 1");
        put(x, 50, 0);
        due.is(x.weight(), 0, "weight(): in the last slot of all");
        put(x, 50, 30);
        due.is(x.weight(), 1, "weight(): in the last slot of all, free in the slot 4");
    }

    // ---- best

    @Edge(of = "Promise 29", says = "if there is no good one, nothing changes")
    static void bestWithoutAGoodOne() {
        Roomandhour x = oneRoom(1, 1, 2);
        due.keeps(x, () -> x.best(), NONE, "best() without a timetable");
        due.noState(x, () -> x.at(0), "at(0) behind it");
        put(x, 0, 0);
        due.keeps(x, () -> x.best(), NONE, "best() with a timetable that is not good");
        stands(x, "it stays", 0, 0);
    }

    @Edge(of = "Promise 29", says = "Returns its weight; NONE if there is none.")
    static void bestWithoutLessons() {
        Roomandhour x = new Roomandhour();
        x.setWeights(9, 9, 9);
        due.is(x.best(), 0, "best() without lessons");
        due.is(x.weight(), 0, "weight()");
    }

    @Edge(of = "Promise 29", says = "of several the smallest one")
    static void bestWithWeightsOfNothing() {
        Roomandhour x = atHome(2, 3, 2, 2, 2);
        x.setWeights(0, 0, 0);
        put(x, 50, 51, 52);
        due.is(x.best(), 0, "best() with weights of 0");
        stands(x, "the smallest good one", 0, 1, 2);
        x.addRule(Roomandhour.AHEAD, 2, 1);
        x.addRule(Roomandhour.AHEAD, 1, 0);
        due.is(x.best(), 0, "best() with weights of 0, and rules");
        stands(x, "the smallest good one", 20, 10, 0);
    }

    @Edge(of = "Promise 29", says = "Makes the good timetable with the smallest weight the present one")
    static void bestByEachWeight() {
        Roomandhour x = homes(1, 3, 2, 1);
        x.addLesson(0, 0, 1);
        x.addLesson(1, 0, 1);
        x.addRule(Roomandhour.NOT_THEN, 1, 0);
        x.addRule(Roomandhour.NOT_THEN, 1, 1);
        x.setWeights(9, 0, 0);
        due.is(x.best(), 18, "best() by late hours alone");
        stands(x, "in the first hour, in the first room", 0, 20);
        x.setWeights(0, 9, 0);
        due.is(x.best(), 0, "best() by rooms alone");
        stands(x, "in the first hour, at home", 2, 21);
        x.setWeights(0, 0, 9);
        due.is(x.best(), 0, "best() by gaps alone");
        stands(x, "without a gap, in the first room", 10, 20);
        x.setWeights(9, 9, 9);
        due.is(x.best(), 27, "best() by all: a gap or a later hour are as heavy");
        stands(x, "the smaller one", 2, 21);
    }

    @Edge(of = "Promise 29", says = "Makes the good timetable with the smallest weight the present one")
    static void bestWhereOneIsGood() {
        Roomandhour x = oneRoom(1, 1, 1);
        x.setWeights(9, 9, 9);
        due.is(x.best(), 0, "best() of one slot and one room");
        Roomandhour y = oneRoom(2, 3, 1);
        for (int slot = 0; slot < 5; slot++) {
            y.addRule(Roomandhour.NOT_THEN, 0, slot);
        }
        y.setWeights(9, 9, 9);
        due.is(y.best(), 18, "best() of the last slot alone");
        stands(y, "the only one", 50);
    }

    // ---- bound

    @Edge(of = "Promise 30", says = "Returns the sum; NONE if some lesson has no value left.")
    static void boundWithoutLessonsAndValues() {
        Roomandhour x = new Roomandhour();
        x.setWeights(9, 9, 9);
        due.is(x.bound(), 0, "bound() without lessons");
        x.addLesson(x.addClass(20, NONE), x.addTeacher(), 1);
        due.is(x.bound(), NONE, "bound() without rooms");
        x.addRoom(19);
        due.is(x.bound(), NONE, "bound() with one seat less than pupils");
        x.addRoom(20);
        due.is(x.bound(), 0, "bound() with as many seats as pupils");
        x.addLesson(0, 0, 2);
        due.is(x.bound(), 9, "bound() with a lesson that ends in the hour 1 at the best");
        x.setGrid(2, 1);
        due.is(x.bound(), NONE, "bound() in days of one hour");
    }

    @Edge(of = "Promise 30", says = "NONE if some lesson has no value left")
    static void boundWithWeightsOfNothing() {
        Roomandhour x = oneRoom(1, 1, 2);
        x.setWeights(0, 0, 0);
        due.is(x.bound(), NONE, "bound(): nothing is left, whatever the weights are");
        x.addRoom(30);
        due.is(x.bound(), 0, "bound() with weights of 0");
    }

    @Edge(of = "Promise 30", says = "the sum, over all lessons, of the smallest weight of late hours and rooms that the lesson has with a value that is left (section 3)")
    static void boundOfLateHoursAndRooms() {
        Roomandhour x = atHome(1, 3, 0, 0, NONE);
        x.setWeights(9, 4, 9);
        due.is(x.bound(), 0, "bound() with all values");
        x.addRule(Roomandhour.IN_ROOM, 0, 1);
        due.is(x.bound(), 4, "bound() with a lesson that is not at home");
        x.addRule(Roomandhour.FREE, 1, 0);
        due.is(x.bound(), 13, "bound() with a lesson that is late");
        x.addRule(Roomandhour.FREE, 1, 1);
        due.is(x.bound(), 22, "bound() with a lesson that is later");
        x.addRule(Roomandhour.IN_ROOM, 2, 2);
        due.is(x.bound(), 22, "bound() with a lesson without a home");
        due.is(x.best(), 22, "best() is no lighter");
    }

    @Edge(of = "Promise 30", says = "Returns a lower bound of weights")
    static void boundBelowBest() {
        Roomandhour x = oneRoom(1, 3, 3);
        x.setWeights(9, 9, 9);
        due.is(x.bound(), 0, "bound(): each lesson by itself can be in the first hour");
        due.is(x.best(), 27, "best(): one behind the other");
        Roomandhour y = homes(1, 3, NONE);
        y.addLesson(0, 0, 1);
        y.addLesson(0, 0, 1);
        y.addRule(Roomandhour.FREE, 0, 1);
        y.setWeights(0, 0, 9);
        due.is(y.bound(), 0, "bound(): gaps do not count");
        due.is(y.best(), 9, "best(): a gap");
    }

    // ---- improve

    @Edge(of = "Promise 31", says = "IllegalStateException if there is no timetable, or it is not good")
    static void improveOfNoGoodTimetable() {
        Roomandhour x = oneRoom(1, 3, 2);
        due.noState(x, () -> x.improve(), "improve() without a timetable");
        put(x, 20, 20);
        due.noState(x, () -> x.improve(), "improve() with a ground rule that is broken");
        put(x, 20, 10);
        due.is(x.improve(), 0, "improve() of a good one");
        x.addRule(Roomandhour.AHEAD, 0, 1);
        due.noState(x, () -> x.improve(), "improve() with a told rule that is broken");
        put(x, 10, 20);
        due.is(x.improve(), 0, "improve() of a good one with a rule");
    }

    @Edge(of = "Promise 31", says = "0 if nothing is moved")
    static void improveWithoutRings() {
        Roomandhour e = new Roomandhour();
        e.first();
        due.keeps(e, () -> e.improve(), 0, "improve() without lessons");
        Roomandhour x = atHome(1, 3, 0);
        x.setWeights(9, 9, 9);
        put(x, 22);
        due.keeps(x, () -> x.improve(), 0, "improve() of one lesson: it cannot move alone");
    }

    @Edge(of = "Section 5", says = "is moved, if that is smaller than the present weight")
    static void improveThatGainsNothing() {
        Roomandhour x = atHome(1, 1, 0, 1);
        put(x, 0, 1);
        due.keeps(x, () -> x.improve(), 0, "improve(): all are at home");
        put(x, 1, 0);
        x.setWeights(9, 0, 9);
        due.keeps(x, () -> x.improve(), 0, "improve(): rooms have no weight");
        x.setWeights(0, 1, 0);
        due.is(x.improve(), 2, "improve(): rooms have a weight");
        Roomandhour y = atHome(1, 1, 0, NONE, 0);
        put(y, 1, 0, 2);
        due.is(y.improve(), 1, "improve(): one of two gets the home room");
        due.keeps(y, () -> y.improve(), 0, "improve(): the other one could get it, but then nothing is gained");
    }

    @Edge(of = "Section 5", says = RING)
    static void ringsOfTwoThreeAndFour() {
        int[][] rows = {{1, 0}, {1, 2, 0}};
        int[][] homes = {{0, 1}, {0, 1, 2}};
        for (int k = 0; k < 2; k++) {
            Roomandhour x = atHome(1, 1, homes[k]);
            put(x, rows[k]);
            due.is(x.improve(), k + 2, "improve() by a ring of " + (k + 2));
            stands(x, "all at home", homes[k]);
        }
        // Four lessons in four slots, each one in the room of the next one.
        Roomandhour y = atHome(2, 2, 0, 1, 0, 2);
        put(y, 2, 10, 21, 30);
        due.is(y.improve(), 4, "improve() by a ring of 4");
        stands(y, "all at home", 10, 21, 30, 2);
    }

    @Edge(of = "Section 5", says = RING)
    static void noRingOfFive() {
        // The rooms 0, 1, 2, 0, 1 are homes of the lessons 4, 0, 1, 2, 3: a ring of five would bring all of them home.
        Roomandhour x = homes(2, 3, 1, 2, 0);
        for (int of : new int[] {0, 1, 2, 0, 2}) {
            x.addLesson(of, of, 1);
        }
        x.setWeights(0, 1, 0);
        put(x, 0, 11, 22, 30, 41);
        due.is(x.weight(), 5, "weight(): none is at home");
        due.is(x.improve(), 3, "improve() by a ring of three, the best of those with four lessons at the most");
        stands(x, "the lessons 0, 1 and 2 at home", 11, 22, 0, 30, 41);
    }

    @Edge(of = "Section 5", says = "different lessons with the same length")
    static void ringsOfOneLength() {
        Roomandhour x = homes(1, 3, 0, 1, 0, 1);
        for (int k = 0; k < 4; k++) {
            x.addLesson(k, k, k < 2 ? 1 : 2);
        }
        x.setWeights(0, 1, 0);
        // Each lesson of one slot is in the room of the other one; those of two slots too.
        put(x, 1, 0, 11, 10);
        due.is(x.improve(), 2, "improve() of the lessons of one slot");
        stands(x, "these are at home", 0, 1, 11, 10);
        due.is(x.improve(), 2, "improve() of the lessons of two slots");
        stands(x, "all are at home", 0, 1, 10, 11);
        Roomandhour y = homes(1, 2, 0, 1);
        y.addLesson(0, 0, 1);
        y.addLesson(1, 1, 2);
        put(y, 1, 0);
        due.keeps(y, () -> y.improve(), 0, "improve(): the two lessons have different lengths");
    }

    @Edge(of = "Section 5", says = "each lesson of the row gets the value that the next one had, the last one that of the first one")
    static void eachGetsTheValueOfTheNextOne() {
        Roomandhour x = atHome(1, 1, 1, 2, 0);
        put(x, 0, 1, 2);
        due.is(x.improve(), 3, "improve() by the ring 0, 1, 2");
        stands(x, "the values of 1, 2, 0", 1, 2, 0);
        Roomandhour y = atHome(1, 1, 2, 0, 1);
        put(y, 0, 1, 2);
        due.is(y.improve(), 3, "improve() by the ring 0, 2, 1");
        stands(y, "the values of 2, 0, 1", 2, 0, 1);
    }

    @Edge(of = "Section 5", says = "after which the timetable is good")
    static void ringsThatAreNotGood() {
        Roomandhour x = atHome(1, 1, 0, 1);
        x.addRule(Roomandhour.IN_ROOM, 1, 0);
        put(x, 1, 0);
        due.keeps(x, () -> x.improve(), 0, "improve() against a told rule");
        Roomandhour y = new Roomandhour();
        y.addRoom(20);
        y.addRoom(19);
        y.addLesson(y.addClass(19, 0), y.addTeacher(), 1);
        y.addLesson(y.addClass(20, 1), y.addTeacher(), 1);
        put(y, 1, 0);
        due.keeps(y, () -> y.improve(), 0, "improve() against the seats");
        // The lessons 0 and 2 have one class: the lesson 1 at home would bring them into one slot.
        Roomandhour z = homes(1, 2, NONE, 1);
        z.addLesson(0, 0, 1);
        z.addLesson(1, 1, 1);
        z.addLesson(0, 0, 1);
        put(z, 0, 10, 11);
        due.is(z.improve(), 1, "improve() by (1, 2), in one slot");
        put(z, 1, 10, 12);
        due.keeps(z, () -> z.improve(), 0, "improve() by (0, 1) would put two lessons of a class into one slot");
    }

    @Edge(of = "Section 5", says = TIES)
    static void theShortestRing() {
        // The rings (0, 1, 2) and (1, 2) both bring the lesson 1 home: the shorter one is moved.
        Roomandhour x = atHome(1, 1, NONE, 1, NONE);
        put(x, 0, 2, 1);
        due.is(x.improve(), 1, "improve()");
        stands(x, "the lesson 0 stays", 0, 1, 2);
    }

    @Edge(of = "Section 5", says = TIES)
    static void theSmallestRingInOrder() {
        // Each swap with a lesson in the room 0 brings the lesson 2 home.
        Roomandhour x = atHome(1, 3, NONE, NONE, 0);
        put(x, 0, 10, 21);
        due.is(x.improve(), 1, "improve() by (0, 2) or (1, 2)");
        stands(x, "by (0, 2)", 21, 10, 0);
        Roomandhour y = atHome(1, 3, 0, NONE, NONE);
        put(y, 1, 10, 20);
        due.is(y.improve(), 1, "improve() by (0, 1) or (0, 2)");
        stands(y, "by (0, 1)", 10, 1, 20);
    }

    @Edge(of = "Section 5", says = "the one with the smallest weight behind it is moved")
    static void notTheFirstRingThatGains() {
        // The swap of 0 and 1 brings one lesson home, that of 2 and 3, which are longer, two of them.
        Roomandhour x = homes(1, 3, 1, NONE, 0, 1);
        for (int k = 0; k < 4; k++) {
            x.addLesson(k, k, k < 2 ? 1 : 2);
        }
        put(x, 0, 1, 11, 10);
        due.is(x.improve(), 2, "improve()");
        stands(x, "by (2, 3)", 0, 1, 10, 11);
        due.is(x.improve(), 1, "improve() again");
        stands(x, "by (0, 1)", 1, 0, 10, 11);
        due.keeps(x, () -> x.improve(), 0, "improve() at last");
    }

    @Edge(of = "Promise 31", says = "Returns by how much the weight becomes smaller")
    static void gainsOfHoursAndGaps() {
        // A swap moves the lessons in time: the teacher 0 has a gap before, and none behind it.
        Roomandhour x = homes(1, 3, NONE, NONE, NONE);
        x.addLesson(0, 0, 1);
        x.addLesson(1, 0, 1);
        x.addLesson(2, 1, 1);
        x.setWeights(9, 9, 7);
        put(x, 0, 20, 10);
        int before = x.weight();
        due.is(x.improve(), 7, "improve() by a gap");
        stands(x, "by (0, 2)", 10, 20, 0);
        due.is(x.weight(), before - 7, "weight()");
    }
}
