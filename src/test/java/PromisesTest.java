/** At least one test by hand for each promise of the document: ordinary inputs, edges, wrong inputs. */
public final class PromisesTest extends Schools {
    public static void main(String[] args) {
        newObject();
        setGrid();
        addClass();
        addTeacher();
        addRoom();
        addLesson();
        addRule();
        dropRule();
        leftByOneLesson();
        leftByPairs();
        leftByCrowds();
        leftAt();
        first();
        next();
        place();
        at();
        broken();
        brokenByCover();
        groundFaults();
        image();
        restore();
        print();
        outputByte();
        core();
        cores();
        coresByGround();
        isNeeded();
        matched();
        unfit();
        setWeights();
        weight();
        best();
        bound();
        improve();
        improveByLongRings();
        away();
        against();
        fairest();
        share();
        examDays();
        examDay();
        count();
        checksum();
        meanHour();
        usedShare();
        errors();
        due.end();
    }

    // ---- what there is

    private static void newObject() {
        due.promise("Promise 1");
        Roomandhour x = new Roomandhour();
        for (int what = 0; what < 5; what++) {
            due.is(x.count(what), 0, "count(" + what + ")");
        }
        due.is(x.count(5), 6, "count(5)");
        due.is(x.checksum(), 0L, "checksum()");
        due.is(x.outputByte(0), NONE, "outputByte(0)");
        due.is(x.bound(), 0, "bound()");
        due.is(x.core(), NONE, "core()");
        due.is(x.cores(), 0, "cores()");
        due.is(x.examDays(0), 0, "examDays(0)");
        due.is(x.errors(), 0, "errors()");
        due.noState(x, () -> x.weight(), "weight()");
        due.noState(x, () -> x.restore(), "restore()");
        due.is(x.setWeights(1, 1, 1), 1, "setWeights(1, 1, 1)");
        // Two days of three hours, not one of six, nor three of two: the fourth slot is the first of the second day.
        x.addRoom(9);
        x.addLesson(x.addClass(9, NONE), x.addTeacher(), 1);
        put(x, 30);
        due.is(x.meanHour(), 0.0, "meanHour()");
        due.is(x.print(2, 0), 7, "print(2, 0)");
        due.is(row(x), "...|0..", "the row");
    }

    private static void setGrid() {
        due.promise("Promise 2");
        Roomandhour x = oneRoom(2, 3, 2);
        due.is(x.setGrid(1, 1), 1, "setGrid(1, 1)");
        due.is(x.setGrid(1, 3), 3, "setGrid(1, 3)");
        due.is(x.setGrid(2, 1), 2, "setGrid(2, 1)");
        due.is(x.setGrid(2, 2), 4, "setGrid(2, 2)");
        due.is(x.setGrid(2, 3), 6, "setGrid(2, 3)");
        due.is(x.count(5), 6, "count(5)");
        for (int bad : new int[] {0, 3, -1, MIN, MAX}) {
            due.noArgument(x, () -> x.setGrid(bad, 2), "setGrid(" + bad + ", 2)");
        }
        for (int bad : new int[] {0, 4, -1, MIN, MAX}) {
            due.noArgument(x, () -> x.setGrid(2, bad), "setGrid(2, " + bad + ")");
        }
        due.is(x.first(), true, "first()");
        due.noArgument(x, () -> x.setGrid(2, 4), "setGrid(2, 4) with a timetable");
        stands(x, "a timetable stays behind a grid that is refused", 0, 10);
        x.setGrid(2, 2);
        due.noState(x, () -> x.at(0), "at(0) in another grid");
        x.first();
        x.setGrid(2, 2);
        due.noState(x, () -> x.at(0), "at(0) behind setGrid with the same numbers");
        x.first();
        x.addRule(Roomandhour.AT_MOST, 0, 1);
        x.addRule(Roomandhour.AHEAD, 0, 1);
        due.is(x.setGrid(2, 3), 6, "setGrid with rules that name no slot");
        x.addRule(Roomandhour.NOT_THEN, 0, 5);
        x.first();
        due.noState(x, () -> x.setGrid(2, 3), "setGrid with NOT_THEN");
        due.noState(x, () -> x.setGrid(1, 1), "setGrid(1, 1) with NOT_THEN");
        due.noArgument(x, () -> x.setGrid(0, 1), "setGrid(0, 1) with NOT_THEN");
        stands(x, "the timetable stays", 0, 10);
        x.dropRule(2);
        due.is(x.setGrid(1, 2), 2, "setGrid behind dropRule");
        x.addRule(Roomandhour.FREE, 0, 1);
        due.noState(x, () -> x.setGrid(1, 2), "setGrid with FREE");
        Roomandhour y = oneRoom(1, 2, 1);
        due.is(y.left(0), 2, "left(0) in 1 day of 2 hours");
        due.noIndex(y, () -> y.against(0, 1), "against(0, 1) in 1 day");
        y.setGrid(2, 1);
        due.is(y.left(0), 2, "left(0) in 2 days of 1 hour");
        due.is(y.against(0, 1), NONE, "against(0, 1) in 2 days");
    }

    private static void addClass() {
        due.promise("Promise 3");
        Roomandhour x = new Roomandhour();
        due.noIndex(x, () -> x.addClass(10, 0), "addClass(10, 0) without rooms");
        due.noIndex(x, () -> x.addClass(0, 0), "addClass(0, 0) without rooms");
        due.noIndex(x, () -> x.addClass(10, -2), "addClass(10, -2)");
        due.noIndex(x, () -> x.addClass(10, MIN), "addClass(10, MIN)");
        due.noIndex(x, () -> x.addClass(10, MAX), "addClass(10, MAX)");
        for (int bad : new int[] {0, 100, -1, MIN, MAX}) {
            due.noArgument(x, () -> x.addClass(bad, NONE), "addClass(" + bad + ", NONE)");
        }
        due.is(x.addClass(1, NONE), 0, "addClass(1, NONE)");
        due.is(x.addClass(99, NONE), 1, "addClass(99, NONE)");
        x.addRoom(99);
        due.noIndex(x, () -> x.addClass(100, 1), "addClass(100, 1) with one room");
        due.is(x.addClass(50, 0), 2, "addClass(50, 0)");
        x.addTeacher();
        x.addLesson(2, 0, 1);
        x.first();
        due.is(x.addClass(1, 0), 3, "addClass(1, 0)");
        stands(x, "the timetable stays", 0);
        due.noState(x, () -> x.addClass(1, 0), "a fifth class");
        due.noArgument(x, () -> x.addClass(100, 0), "a fifth class of 100");
        due.noIndex(x, () -> x.addClass(100, 1), "a fifth class of 100 in a room that is none");
        // A class without a home room has no weight of rooms, one with a home room has.
        Roomandhour y = wide(1, 1);
        y.addLesson(0, 0, 1);
        put(y, 2);
        due.is(y.weight(), 0, "weight() without a home room");
    }

    private static void addTeacher() {
        due.promise("Promise 4");
        Roomandhour x = oneRoom(2, 3, 1);
        x.first();
        for (int k = 1; k < 4; k++) {
            due.is(x.addTeacher(), k, "addTeacher()");
        }
        stands(x, "the timetable stays", 0);
        due.noState(x, () -> x.addTeacher(), "a fifth teacher");
    }

    private static void addRoom() {
        due.promise("Promise 5");
        Roomandhour x = new Roomandhour();
        for (int bad : new int[] {0, 100, -1, MIN, MAX}) {
            due.noArgument(x, () -> x.addRoom(bad), "addRoom(" + bad + ")");
        }
        due.is(x.addRoom(1), 0, "addRoom(1)");
        x.addLesson(x.addClass(1, NONE), x.addTeacher(), 1);
        due.is(x.left(0), 6, "left(0) with one room");
        x.first();
        due.is(x.addRoom(99), 1, "addRoom(99)");
        stands(x, "the timetable stays", 0);
        due.is(x.left(0), 12, "left(0) with two rooms");
        due.is(x.addRoom(5), 2, "addRoom(5)");
        due.noState(x, () -> x.addRoom(5), "a fourth room");
        due.noArgument(x, () -> x.addRoom(0), "a fourth room without seats");
    }

    private static void addLesson() {
        due.promise("Promise 6");
        Roomandhour x = new Roomandhour();
        x.addRoom(30);
        due.noIndex(x, () -> x.addLesson(0, 0, 1), "addLesson without classes");
        x.addClass(20, NONE);
        due.noIndex(x, () -> x.addLesson(0, 0, 1), "addLesson without teachers");
        x.addTeacher();
        for (int bad : new int[] {-1, 1, MIN, MAX}) {
            due.noIndex(x, () -> x.addLesson(bad, 0, 1), "addLesson(" + bad + ", 0, 1)");
            due.noIndex(x, () -> x.addLesson(0, bad, 1), "addLesson(0, " + bad + ", 1)");
            due.noIndex(x, () -> x.addLesson(0, bad, 3), "addLesson(0, " + bad + ", 3)");
        }
        for (int bad : new int[] {0, 3, -1, MIN, MAX}) {
            due.noArgument(x, () -> x.addLesson(0, 0, bad), "addLesson(0, 0, " + bad + ")");
        }
        due.is(x.addLesson(0, 0, 2), 0, "addLesson(0, 0, 2)");
        x.first();
        due.noArgument(x, () -> x.addLesson(0, 0, 0), "addLesson(0, 0, 0) with a timetable");
        stands(x, "the timetable stays behind a lesson that is refused", 0);
        for (int k = 1; k < 6; k++) {
            x.place(0, 0, 0);
            due.is(x.addLesson(0, 0, 1), k, "addLesson(0, 0, 1)");
            due.noState(x, () -> x.at(0), "at(0) behind addLesson");
        }
        due.noState(x, () -> x.addLesson(0, 0, 1), "a seventh lesson");
        due.noArgument(x, () -> x.addLesson(0, 0, 3), "a seventh lesson of length 3");
        due.noIndex(x, () -> x.addLesson(1, 0, 3), "a seventh lesson of no class");
        due.is(x.count(3), 6, "count(3)");
        due.is(x.first(), false, "first() with seven slots of one class");
    }

    private static void addRule() {
        due.promise("Promise 7");
        Roomandhour x = wide(1, 3);
        x.addLesson(0, 0, 1);
        due.noArgument(x, () -> x.addRule(-1, 0, 0), "addRule(-1, 0, 0)");
        due.noArgument(x, () -> x.addRule(8, 0, 0), "addRule(8, 0, 0)");
        due.noArgument(x, () -> x.addRule(MIN, 0, 0), "addRule(MIN, 0, 0)");
        due.noArgument(x, () -> x.addRule(MAX, 0, 0), "addRule(MAX, 0, 0)");
        x.addLesson(1, 1, 1);
        // The bounds of a and b by kind, in 3 slots, with 2 lessons, 4 teachers and 3 rooms.
        int[] boundA = {2, 4, 2, 2, 2, 2, 2, 4};
        int[] boundB = {3, 4, 2, 2, 2, 2, 3, 3};
        for (int kind = 0; kind < 8; kind++) {
            int k = kind;
            int fineA = kind >= 2 && kind <= 5 ? 1 : 0;
            for (int bad : new int[] {-1, boundA[kind], MIN, MAX}) {
                due.noArgument(x, () -> x.addRule(k, bad, 0), "addRule(" + k + ", " + bad + ", 0)");
            }
            for (int bad : new int[] {-1, boundB[kind], MIN, MAX}) {
                due.noArgument(x, () -> x.addRule(k, fineA, bad), "addRule(" + k + ", " + fineA + ", " + bad + ")");
            }
            if (fineA == 1) {
                due.noArgument(x, () -> x.addRule(k, 1, 1), "addRule(" + k + ", 1, 1)");
            }
            due.is(x.addRule(kind, boundA[kind] - 1, fineA == 1 ? 0 : boundB[kind] - 1), 0, "the first rule of kind " + kind);
            due.is(x.addRule(kind, 0, boundB[kind] - 1), 1, "the second rule of kind " + kind);
            x.dropRule(0);
            x.dropRule(0);
        }
        put(x, 0, 10);
        for (int k = 0; k < 10; k++) {
            due.is(x.addRule(Roomandhour.TOGETHER, 0, 1), k, "addRule(TOGETHER, 0, 1)");
        }
        stands(x, "the timetable stays", 0, 10);
        due.is(x.broken(), 1023, "broken() with ten rules that are broken");
        due.noState(x, () -> x.addRule(Roomandhour.TOGETHER, 0, 1), "an eleventh rule");
        due.noArgument(x, () -> x.addRule(Roomandhour.TOGETHER, 0, 0), "an eleventh rule of one lesson");
    }

    private static void dropRule() {
        due.promise("Promise 8");
        Roomandhour x = oneRoom(2, 3, 2);
        due.noIndex(x, () -> x.dropRule(0), "dropRule(0) without rules");
        x.addRule(Roomandhour.TOGETHER, 0, 1);
        x.addRule(Roomandhour.AHEAD, 1, 0);
        x.addRule(Roomandhour.NOT_THEN, 1, 4);
        put(x, 0, 30);
        due.is(x.broken(), 3, "broken()");
        due.noIndex(x, () -> x.dropRule(3), "dropRule(3)");
        due.noIndex(x, () -> x.dropRule(-1), "dropRule(-1)");
        due.noIndex(x, () -> x.dropRule(MIN), "dropRule(MIN)");
        due.noIndex(x, () -> x.dropRule(MAX), "dropRule(MAX)");
        due.is(x.dropRule(0), 2, "dropRule(0)");
        stands(x, "the timetable stays", 0, 30);
        due.is(x.broken(), 1, "broken() behind dropRule");
        due.is(x.checksum(), sum(4, 1, 0, 0, 1, 4, 0, 30), "checksum() behind dropRule");
        due.is(x.dropRule(1), 1, "dropRule(1)");
        due.is(x.checksum(), sum(4, 1, 0, 0, 30), "checksum() behind dropRule of the last one");
        due.is(x.dropRule(0), 0, "dropRule(0)");
        due.is(x.broken(), 0, "broken() without rules");
        due.is(x.addRule(Roomandhour.NEAR, 0, 1), 0, "addRule behind dropRule");
    }

    // ---- what is left

    private static void leftByOneLesson() {
        due.promise("Promise 9");
        Roomandhour x = new Roomandhour();
        due.noIndex(x, () -> x.left(0), "left(0) without lessons");
        x.addRoom(30);
        x.addRoom(20);
        x.addClass(25, 0);
        x.addClass(20, 0);
        x.addTeacher();
        x.addTeacher();
        x.addLesson(0, 0, 1);
        for (int bad : new int[] {-1, 1, MIN, MAX}) {
            due.noIndex(x, () -> x.left(bad), "left(" + bad + ")");
        }
        due.is(x.left(0), 6, "left(0): one room has seats enough");
        x.addLesson(1, 1, 2);
        due.is(x.left(1), 8, "left(1): four slots begin two in a row, as many seats as pupils are enough");
        x.addRule(Roomandhour.NOT_THEN, 1, 1);
        due.is(x.left(1), 4, "left(1) with NOT_THEN in the middle of a day");
        x.addRule(Roomandhour.NOT_THEN, 1, 5);
        due.is(x.left(1), 2, "left(1) with NOT_THEN at the end of a day");
        x.addRule(Roomandhour.IN_ROOM, 1, 1);
        due.is(x.left(1), 1, "left(1) with IN_ROOM");
        due.is(x.leftAt(1, 0), 31, "leftAt(1, 0)");
        x.addRule(Roomandhour.FREE, 0, 2);
        due.is(x.left(0), 5, "left(0) with FREE of its teacher");
        x.addRule(Roomandhour.AT_MOST, 0, 0);
        due.is(x.left(0), 5, "left(0): AT_MOST takes no value away");
        due.is(x.first(), false, "first(): AT_MOST stands against it");
        x.addRule(Roomandhour.FREE, 1, 3);
        due.is(x.left(1), 0, "left(1) with FREE in the slot that it must have");
        due.is(x.left(0), 0, "left(0): no value goes with one of the other lesson");
        Roomandhour y = oneRoom(2, 1, 1);
        y.addLesson(0, 0, 2);
        due.is(y.left(1), 0, "left(1): two slots in days of one hour");
        due.is(y.left(0), 0, "left(0) beside it");
    }

    private static void leftByPairs() {
        due.promise("Promise 9");
        Roomandhour x = wide(1, 3);
        x.addLesson(0, 0, 1);
        x.addLesson(1, 1, 1);
        due.is(x.left(0), 9, "left(0)");
        x.addRule(Roomandhour.AHEAD, 0, 1);
        due.is(x.left(0), 6, "left(0) with AHEAD");
        due.is(x.left(1), 6, "left(1) with AHEAD");
        due.is(x.leftAt(1, 0), 10, "leftAt(1, 0) with AHEAD");
        x.addRule(Roomandhour.NOT_THEN, 1, 1);
        due.is(x.leftAt(1, 0), 20, "leftAt(1, 0) with NOT_THEN");
        x.addRule(Roomandhour.NEAR, 1, 0);
        due.is(x.left(0), 3, "left(0) with NEAR");
        due.is(x.leftAt(0, 0), 10, "leftAt(0, 0) with NEAR");
        x.addRule(Roomandhour.TOGETHER, 0, 1);
        due.is(x.left(0) + x.left(1), 0, "left(0) + left(1) with TOGETHER");
        Roomandhour y = wide(2, 2);
        y.addLesson(0, 0, 1);
        y.addLesson(1, 1, 2);
        y.addRule(Roomandhour.TOGETHER, 0, 1);
        due.is(y.left(0), 6, "left(0) with a lesson of two slots");
        y.addRule(Roomandhour.NOT_THEN, 0, 0);
        due.is(y.left(1), 3, "left(1)");
        due.is(y.leftAt(1, 2), 22, "leftAt(1, 2)");
        y.addRule(Roomandhour.APART, 1, 0);
        due.is(y.left(1), 0, "left(1) with APART");
        // Both lessons must be in the only room, in the only slot: rule (e) takes their values away.
        Roomandhour z = oneRoom(1, 1, 2);
        due.is(z.left(0), 0, "left(0) in one slot and one room");
        z.addRoom(30);
        due.is(z.left(0), 2, "left(0) in one slot and two rooms");
        z.addRule(Roomandhour.IN_ROOM, 0, 1);
        due.is(z.leftAt(1, 0), 0, "leftAt(1, 0): the other room is taken");
        due.is(z.left(1), 1, "left(1): the other room is taken");
        // Values are taken away by pairs alone: three lessons in two rooms have no timetable, but all values.
        Roomandhour w = oneRoom(1, 1, 3);
        w.addRoom(30);
        due.is(w.left(2), 2, "left(2): three lessons in two rooms");
        due.is(w.first(), false, "first(): three lessons in two rooms");
    }

    private static void leftByCrowds() {
        due.promise("Promise 9");
        Roomandhour x = wide(1, 3);
        for (int k = 0; k < 3; k++) {
            x.addLesson(0, k, 1);
        }
        x.addLesson(1, 3, 1);
        x.addRule(Roomandhour.NOT_THEN, 0, 2);
        due.is(x.left(2), 9, "left(2): one lesson keeps out of a slot");
        x.addRule(Roomandhour.NOT_THEN, 1, 2);
        due.is(x.left(2), 3, "left(2): two lessons of the class take two slots");
        due.is(x.leftAt(2, 0), 20, "leftAt(2, 0)");
        due.is(x.left(3), 9, "left(3): a lesson of another class and teacher");
        x.addRule(Roomandhour.NOT_THEN, 2, 2);
        due.is(x.left(3), 0, "left(3): three lessons of a class in two slots take all values away");
        Roomandhour y = wide(1, 3);
        for (int k = 0; k < 3; k++) {
            y.addLesson(k, 0, 1);
        }
        y.addLesson(3, 3, 1);
        y.addRule(Roomandhour.NOT_THEN, 1, 0);
        y.addRule(Roomandhour.NOT_THEN, 2, 0);
        due.is(y.left(0), 3, "left(0): two lessons of the teacher take two slots");
        due.is(y.leftAt(0, 2), 2, "leftAt(0, 2)");
        y.addRule(Roomandhour.NOT_THEN, 0, 0);
        due.is(y.left(3), 0, "left(3): three lessons of a teacher in two slots take all values away");
        // Lengths count: a lesson of two slots and one of one fill a day.
        Roomandhour z = wide(1, 3);
        z.addLesson(0, 0, 2);
        z.addLesson(0, 1, 1);
        due.is(z.left(1), 6, "left(1): the middle slot is always covered by the other lesson");
        due.is(z.leftAt(1, 3), 20, "leftAt(1, 3)");
        z.addLesson(0, 2, 1);
        due.is(z.left(0), 0, "left(0): four slots of lessons in a day of three");
        // Three lessons of two slots go together by pairs in five slots, but are six slots long.
        Roomandhour w = wide(2, 3);
        for (int k = 0; k < 3; k++) {
            w.addLesson(0, k, 2);
        }
        w.addLesson(1, 3, 1);
        due.is(w.left(0), 12, "left(0): three long lessons in six slots");
        for (int k = 0; k < 3; k++) {
            due.is(w.left(3), 18, "left(3): three long lessons in six slots");
            w.addRule(Roomandhour.NOT_THEN, k, 5);
        }
        due.is(w.left(3), 0, "left(3): three long lessons in five slots take all values away");
        due.is(w.bound(), NONE, "bound() then");
        leftBehindCrowds();
    }

    /** What two lessons of a class, or of a teacher, take from a third one, a rule takes from a fourth one. */
    private static void leftBehindCrowds() {
        for (int ofTeacher = 0; ofTeacher < 2; ofTeacher++) {
            Roomandhour x = wide(1, 3);
            for (int k = 0; k < 3; k++) {
                x.addLesson(ofTeacher == 0 ? 0 : k, ofTeacher == 0 ? k : 0, 1);
            }
            x.addLesson(ofTeacher == 0 ? 1 : 3, ofTeacher == 0 ? 3 : 1, 1);
            x.addRule(Roomandhour.NOT_THEN, 0, 2);
            x.addRule(Roomandhour.TOGETHER, 2, 3);
            due.is(x.left(3), 9, "left(3) with TOGETHER");
            x.addRule(Roomandhour.NOT_THEN, 1, 2);
            due.is(x.left(3), 3, "left(3) behind a crowd");
            due.is(x.leftAt(3, 0), 20, "leftAt(3, 0) behind a crowd");
        }
    }

    private static void leftAt() {
        due.promise("Promise 10");
        Roomandhour x = new Roomandhour();
        due.noIndex(x, () -> x.leftAt(0, 0), "leftAt(0, 0) without lessons");
        x.addRoom(10);
        x.addRoom(20);
        x.addRoom(20);
        x.addClass(20, NONE);
        x.addTeacher();
        x.addLesson(0, 0, 2);
        int[] all = {1, 2, 11, 12, 31, 32, 41, 42};
        for (int k = 0; k < all.length; k++) {
            due.is(x.leftAt(0, k), all[k], "leftAt(0, " + k + ")");
        }
        due.noElement(x, () -> x.leftAt(0, 8), "leftAt(0, 8)");
        due.noElement(x, () -> x.leftAt(0, -1), "leftAt(0, -1)");
        due.noElement(x, () -> x.leftAt(0, MIN), "leftAt(0, MIN)");
        due.noElement(x, () -> x.leftAt(0, MAX), "leftAt(0, MAX)");
        due.noIndex(x, () -> x.leftAt(1, 0), "leftAt(1, 0)");
        due.noIndex(x, () -> x.leftAt(-1, -1), "leftAt(-1, -1)");
        x.setGrid(2, 1);
        due.noElement(x, () -> x.leftAt(0, 0), "leftAt(0, 0) with no value left");
    }

    // ---- timetables

    private static void first() {
        due.promise("Promise 11");
        Roomandhour x = new Roomandhour();
        due.is(x.first(), true, "first() without lessons");
        due.is(x.weight(), 0, "weight() of the timetable without lessons");
        Roomandhour y = oneRoom(2, 3, 3);
        due.is(y.first(), true, "first()");
        stands(y, "the smallest one", 0, 10, 20);
        y.addRule(Roomandhour.AHEAD, 2, 0);
        y.addRule(Roomandhour.NOT_THEN, 2, 0);
        due.is(y.first(), true, "first() with AHEAD");
        stands(y, "the lesson 0 counts most", 20, 0, 10);
        y.addRule(Roomandhour.AHEAD, 0, 2);
        due.keeps(y, () -> y.first(), false, "first() with rules against each other");
        stands(y, "nothing changes", 20, 0, 10);
        put(y, 0, 0, 0);
        due.keeps(y, () -> y.first(), false, "first() with a timetable that is not good");
        // The room counts less than the slot, and the lesson 0 more than the others.
        Roomandhour z = wide(1, 2);
        z.addLesson(0, 0, 1);
        z.addLesson(1, 1, 1);
        z.addLesson(1, 2, 1);
        z.addRule(Roomandhour.IN_ROOM, 1, 0);
        z.addRule(Roomandhour.NOT_THEN, 1, 1);
        z.first();
        stands(z, "in rooms", 1, 0, 10);
    }

    private static void next() {
        due.promise("Promise 12");
        Roomandhour e = new Roomandhour();
        due.noState(e, () -> e.next(), "next() without a timetable");
        e.first();
        due.keeps(e, () -> e.next(), false, "next() without lessons");
        Roomandhour x = oneRoom(1, 3, 2);
        due.noState(x, () -> x.next(), "next() without a timetable");
        x.first();
        int[][] rows = {{0, 10}, {0, 20}, {10, 0}, {10, 20}, {20, 0}, {20, 10}};
        for (int k = 0; k < 6; k++) {
            stands(x, "the timetable " + k, rows[k]);
            due.is(x.next(), k < 5, "next() behind the timetable " + k);
        }
        stands(x, "nothing changes behind the last one", 20, 10);
        put(x, 10, 10);
        due.is(x.next(), true, "next() behind one that is not good");
        stands(x, "behind one that is not good", 10, 20);
        put(x, 20, 20);
        due.keeps(x, () -> x.next(), false, "next() behind one that is not good, and none is greater");
        x.addRoom(30);
        put(x, 0, 0);
        x.next();
        stands(x, "the next room", 0, 1);
        x.next();
        stands(x, "the next slot", 0, 10);
        put(x, 0, 21);
        x.next();
        stands(x, "the next room of the lesson 0", 1, 0);
        x.addRule(Roomandhour.IN_ROOM, 0, 0);
        x.next();
        stands(x, "behind a rule that the present one breaks", 10, 0);
    }

    private static void place() {
        due.promise("Promise 13");
        Roomandhour x = new Roomandhour();
        due.noIndex(x, () -> x.place(0, 0, 0), "place(0, 0, 0) without lessons");
        Roomandhour y = oneRoom(2, 2, 3);
        y.addRoom(1);
        for (int bad : new int[] {-1, 3, MIN, MAX}) {
            due.noIndex(y, () -> y.place(bad, 0, 0), "place(" + bad + ", 0, 0)");
        }
        for (int bad : new int[] {-1, 4, MIN, MAX}) {
            due.noIndex(y, () -> y.place(0, bad, 0), "place(0, " + bad + ", 0)");
        }
        for (int bad : new int[] {-1, 2, MIN, MAX}) {
            due.noIndex(y, () -> y.place(0, 0, bad), "place(0, 0, " + bad + ")");
        }
        due.noState(y, () -> y.at(0), "at(0): a place that is refused makes no timetable");
        due.is(y.place(1, 3, 1), NONE, "place(1, 3, 1)");
        stands(y, "the others get the slot 0 and the room 0", 0, 31, 0);
        due.is(y.place(1, 2, 0), 31, "place(1, 2, 0)");
        due.is(y.place(2, 2, 0), 0, "place(2, 2, 0)");
        stands(y, "the others keep theirs", 0, 20, 20);
        due.noIndex(y, () -> y.place(2, 4, 0), "place(2, 4, 0) with a timetable");
        y.setGrid(2, 3);
        due.is(y.place(0, 5, 1), NONE, "place(0, 5, 1) in a new grid");
        stands(y, "nothing is left of the old timetable", 51, 0, 0);
    }

    private static void at() {
        due.promise("Promise 14");
        Roomandhour x = oneRoom(2, 3, 2);
        due.noState(x, () -> x.at(1), "at(1) without a timetable");
        due.noIndex(x, () -> x.at(2), "at(2) without a timetable");
        x.addRoom(5);
        x.addRoom(5);
        x.place(0, 5, 2);
        due.is(x.at(0), 52, "at(0)");
        due.is(x.at(1), 0, "at(1)");
        for (int bad : new int[] {-1, 2, MIN, MAX}) {
            due.noIndex(x, () -> x.at(bad), "at(" + bad + ")");
        }
    }

    private static void broken() {
        due.promise("Promise 15");
        Roomandhour x = wide(2, 3);
        due.noState(x, () -> x.broken(), "broken() without a timetable");
        x.addLesson(0, 0, 1);
        x.addLesson(1, 0, 1);
        x.addRule(Roomandhour.NOT_THEN, 0, 1);
        x.addRule(Roomandhour.AT_MOST, 0, 1);
        x.addRule(Roomandhour.TOGETHER, 0, 1);
        x.addRule(Roomandhour.APART, 0, 1);
        x.addRule(Roomandhour.AHEAD, 0, 1);
        x.addRule(Roomandhour.NEAR, 0, 1);
        x.addRule(Roomandhour.IN_ROOM, 0, 2);
        x.addRule(Roomandhour.FREE, 0, 4);
        for (int a = 0; a < 6; a++) {
            for (int b = 0; b < 6; b++) {
                tells(x, 10 * a + b % 3, 10 * b);
            }
        }
        tells(x, 10, 30);
        x.dropRule(7);
        due.is(x.broken(), 0b01100101, "broken() without FREE");
        Roomandhour y = oneRoom(1, 1, 1);
        y.first();
        due.is(y.broken(), 0, "broken() without rules");
    }

    private static void tells(Roomandhour x, int a, int b) {
        put(x, a, b);
        due.is(x.broken(), brokenByHand(a, b), "broken() at " + a + " and " + b);
    }

    /** The rules of broken(), each written out for two lessons of one slot in two days of three. */
    private static int brokenByHand(int a, int b) {
        int sa = a / 10;
        int sb = b / 10;
        boolean oneDay = sa / 3 == sb / 3;
        int set = 0;
        set += sa == 1 ? 1 : 0;
        set += oneDay && sa != sb ? 2 : 0;
        set += sa != sb ? 4 : 0;
        set += oneDay ? 8 : 0;
        set += sa >= sb ? 16 : 0;
        set += !(oneDay && (sa == sb + 1 || sb == sa + 1)) ? 32 : 0;
        set += a % 10 != 2 ? 64 : 0;
        set += sa == 4 || sb == 4 ? 128 : 0;
        return set;
    }

    private static void brokenByCover() {
        due.promise("Promise 15");
        // A lesson of two slots, and one of one slot, of the same teacher.
        Roomandhour x = wide(2, 3);
        x.addLesson(0, 0, 2);
        x.addLesson(1, 0, 1);
        x.addRule(Roomandhour.NOT_THEN, 0, 1);
        x.addRule(Roomandhour.AT_MOST, 0, 2);
        x.addRule(Roomandhour.NEAR, 0, 1);
        x.addRule(Roomandhour.AHEAD, 0, 1);
        x.addRule(Roomandhour.FREE, 0, 5);
        put(x, 0, 20);
        due.is(x.broken(), 0b00011, "broken(): near, ahead, three slots on a day");
        put(x, 10, 20);
        due.is(x.broken(), 0b01101, "broken(): overlapping, two slots on a day");
        put(x, 10, 0);
        due.is(x.broken(), 0b01011, "broken(): near the other way round");
        put(x, 40, 30);
        due.is(x.broken(), 0b11010, "broken(): two slots from the slot 4 on cover the slot 5");
        // The lesson begins in the last slot of the first day, and breaks (a): it covers the first slot of the next day.
        put(x, 20, 30);
        due.is(x.broken(), 0b01100, "broken(): over the end of a day");
        put(x, 20, 40);
        due.is(x.broken(), 0b00100, "broken(): behind the last slot, but on another day");
        put(x, 50, 50);
        due.is(x.broken(), 0b11100, "broken(): in the last slot of all");
        x.addRule(Roomandhour.APART, 0, 1);
        put(x, 20, 30);
        due.is(x.broken() >> 5, 0, "broken(): the day of a lesson is that of its first slot");
        put(x, 20, 0);
        due.is(x.broken() >> 5, 1, "broken(): the day of a lesson is that of its first slot, on one day");
        // AT_MOST counts the slots of each day, each one once.
        Roomandhour y = wide(2, 3);
        y.addLesson(0, 0, 2);
        y.addLesson(1, 0, 2);
        y.addRule(Roomandhour.AT_MOST, 0, 2);
        y.addRule(Roomandhour.AT_MOST, 1, 0);
        put(y, 0, 0);
        due.is(y.broken(), 0, "broken(): twice the same slots");
        put(y, 0, 10);
        due.is(y.broken(), 1, "broken(): three slots");
        put(y, 0, 30);
        due.is(y.broken(), 0, "broken(): two slots on each day");
        put(y, 20, 40);
        due.is(y.broken(), 1, "broken(): over the end of a day, three slots on the second day");
    }

    private static void groundFaults() {
        due.promise("Promise 16");
        Roomandhour x = new Roomandhour();
        due.noState(x, () -> x.groundFaults(), "groundFaults() without a timetable");
        x.first();
        due.is(x.groundFaults(), 0, "groundFaults() without lessons");
        x.addRoom(30);
        x.addRoom(19);
        x.addClass(20, 0);
        x.addClass(19, 0);
        x.addTeacher();
        x.addTeacher();
        x.addLesson(0, 0, 2);
        x.addLesson(1, 1, 1);
        put(x, 0, 11);
        due.is(x.groundFaults(), 0, "groundFaults(): different rooms");
        put(x, 1, 20);
        due.is(x.groundFaults(), 1, "groundFaults(): (b)");
        put(x, 21, 51);
        due.is(x.groundFaults(), 2, "groundFaults(): (a) and (b)");
        put(x, 20, 0);
        due.is(x.groundFaults(), 1, "groundFaults(): (a) alone");
        put(x, 20, 30);
        due.is(x.groundFaults(), 2, "groundFaults(): (a), and (e) in the slot behind the day");
        put(x, 50, 50);
        due.is(x.groundFaults(), 2, "groundFaults(): (a), and (e) in the last slot");
        put(x, 50, 0);
        due.is(x.groundFaults(), 1, "groundFaults(): the slot behind the last one is none");
        put(x, 0, 10);
        due.is(x.groundFaults(), 1, "groundFaults(): (e) in the second slot");
        put(x, 10, 0);
        due.is(x.groundFaults(), 0, "groundFaults(): one before the other");
        Roomandhour y = wide(2, 3);
        y.addLesson(0, 0, 2);
        y.addLesson(0, 1, 2);
        y.addLesson(1, 1, 2);
        put(y, 0, 1, 2);
        due.is(y.groundFaults(), 2, "groundFaults(): (c) and (d), a pair counts once");
        put(y, 0, 0, 0);
        due.is(y.groundFaults(), 5, "groundFaults(): (c), (d), and three times (e)");
        put(y, 0, 10, 31);
        due.is(y.groundFaults(), 2, "groundFaults(): (c) and (e) of one pair");
        y.addRule(Roomandhour.NOT_THEN, 0, 0);
        due.is(y.groundFaults(), 2, "groundFaults(): told rules do not count");
        y.addLesson(0, 1, 2);
        put(y, 0, 0, 32, 0);
        due.is(y.groundFaults(), 7, "groundFaults(): three pairs of a class and a room, one of a teacher");
    }

    private static void image() {
        due.promise("Promise 17");
        Roomandhour x = oneRoom(2, 3, 3);
        due.noState(x, () -> x.image(), "image() without a timetable");
        put(x, 0, 10, 20);
        due.is(x.image(), NONE, "the first image()");
        due.is(x.image(), 0, "image() of the same timetable");
        put(x, 0, 20, 10);
        due.is(x.image(), 2, "image() with two other values");
        x.addRoom(30);
        put(x, 1, 20, 10);
        due.is(x.image(), 1, "image() with another room");
        x.setGrid(2, 3);
        due.noState(x, () -> x.image(), "image() behind setGrid");
        put(x, 11, 30, 40);
        due.is(x.image(), 3, "the image stays behind setGrid");
        x.addLesson(0, 0, 1);
        put(x, 11, 30, 40, 0);
        due.is(x.image(), NONE, "image() with another number of lessons");
        due.is(x.image(), 0, "image() again");
        Roomandhour y = new Roomandhour();
        y.first();
        due.is(y.image(), NONE, "the first image() without lessons");
        due.is(y.image(), 0, "image() without lessons");
    }

    private static void restore() {
        due.promise("Promise 18");
        Roomandhour x = oneRoom(2, 3, 3);
        due.noState(x, () -> x.restore(), "restore() without an image");
        put(x, 0, 10, 50);
        due.noState(x, () -> x.restore(), "restore() with a timetable, but without an image");
        x.image();
        due.is(x.restore(), 0, "restore() of the present one");
        put(x, 20, 20, 50);
        due.is(x.restore(), 2, "restore()");
        stands(x, "the image", 0, 10, 50);
        put(x, 40, 10, 50);
        stands(x, "the present one moves alone", 40, 10, 50);
        due.is(x.restore(), 1, "restore() again: the image was not moved");
        x.setGrid(2, 3);
        due.is(x.restore(), NONE, "restore() without a timetable");
        stands(x, "the image behind setGrid", 0, 10, 50);
        x.setGrid(2, 2);
        due.noState(x, () -> x.restore(), "restore() with a slot that does not exist any more");
        due.noState(x, () -> x.at(0), "at(0) behind a restore() that is refused");
        put(x, 30, 30, 30);
        due.noState(x, () -> x.restore(), "restore() with a slot that does not exist any more, and a timetable");
        x.setGrid(2, 3);
        due.is(x.restore(), NONE, "restore() in the old grid again");
        x.place(2, 3, 0);
        x.image();
        x.setGrid(2, 2);
        due.is(x.restore(), NONE, "restore() with slots that exist");
        stands(x, "the image with the same slots", 0, 10, 30);
        x.addLesson(0, 0, 1);
        due.noState(x, () -> x.restore(), "restore() with another number of lessons");
        put(x, 0, 0, 0, 0);
        due.noState(x, () -> x.restore(), "restore() with another number of lessons, and a timetable");
        Roomandhour y = new Roomandhour();
        y.first();
        y.image();
        due.is(y.restore(), 0, "restore() without lessons");
        y.setGrid(1, 1);
        due.is(y.restore(), NONE, "restore() without lessons and timetable");
        due.is(y.weight(), 0, "weight() behind it");
    }

    private static void print() {
        due.promise("Promise 19");
        Roomandhour x = wide(2, 3);
        x.addLesson(0, 0, 1);
        x.addLesson(0, 1, 2);
        x.addLesson(1, 0, 1);
        due.noState(x, () -> x.print(0, 0), "print(0, 0) without a timetable");
        due.noIndex(x, () -> x.print(0, 4), "print(0, 4) without a timetable");
        due.noArgument(x, () -> x.print(3, 4), "print(3, 4) without a timetable");
        put(x, 0, 31, 50);
        due.is(x.print(0, 0), 7, "print(0, 0)");
        due.is(row(x), "0..|11.", "the row of the class 0");
        due.is(x.print(0, 1), 7, "print(0, 1)");
        due.is(row(x), "...|..2", "the row of the class 1");
        x.print(1, 0);
        due.is(row(x), "0..|..2", "the row of the teacher 0");
        x.print(1, 3);
        due.is(row(x), "...|...", "the row of the teacher 3");
        x.print(2, 0);
        due.is(row(x), "0..|..2", "the row of the room 0");
        x.print(2, 1);
        due.is(row(x), "...|11.", "the row of the room 1");
        put(x, 10, 0, 20);
        x.print(0, 0);
        due.is(row(x), "10.|...", "the smallest number of two that cover a slot");
        put(x, 30, 20, 0);
        x.print(1, 1);
        due.is(row(x), "..1|1..", "a lesson over the end of a day");
        put(x, 0, 50, 0);
        x.print(2, 0);
        due.is(row(x), "0..|..1", "a lesson in the last slot");
        for (int kind = 0; kind < 3; kind++) {
            int k = kind;
            for (int bad : new int[] {-1, kind == 2 ? 3 : 4, MIN, MAX}) {
                due.noIndex(x, () -> x.print(k, bad), "print(" + k + ", " + bad + ")");
            }
        }
        for (int bad : new int[] {-1, 3, MIN, MAX}) {
            due.noArgument(x, () -> x.print(bad, 0), "print(" + bad + ", 0)");
        }
        int[][] grids = {{1, 1}, {2, 1}, {1, 3}, {2, 2}};
        String[] rows = {"2", ".|2", "..2", "..|.2"};
        for (int k = 0; k < 4; k++) {
            int slots = x.setGrid(grids[k][0], grids[k][1]);
            x.place(2, slots - 1, 1);
            due.is(x.print(2, 1), rows[k].length(), "print(2, 1) in a grid of " + slots);
            due.is(row(x), rows[k], "the row in a grid of " + slots);
        }
    }

    private static void outputByte() {
        due.promise("Promise 20");
        Roomandhour x = oneRoom(2, 3, 1);
        due.is(x.outputByte(0), NONE, "outputByte(0) without output");
        x.first();
        x.print(0, 0);
        int[] want = {'0', '.', '.', '|', '.', '.', '.', NONE};
        for (int k = 0; k < want.length; k++) {
            due.is(x.outputByte(k), want[k], "outputByte(" + k + ")");
        }
        for (int bad : new int[] {-1, MIN, MAX}) {
            due.is(x.outputByte(bad), NONE, "outputByte(" + bad + ")");
        }
        x.place(0, 1, 0);
        due.is(row(x), "0..|...", "the output stays when the timetable changes");
        x.setGrid(1, 2);
        due.is(row(x), "0..|...", "the output stays without a timetable");
        due.noState(x, () -> x.print(0, 0), "print(0, 0) without a timetable");
        due.is(row(x), "0..|...", "the output stays behind a print() that is refused");
        x.place(0, 1, 0);
        x.print(0, 0);
        due.is(row(x), ".0", "a shorter output");
        due.is(x.outputByte(2), NONE, "outputByte(2) of a shorter output");
    }

    // ---- rules that cannot be kept together

    private static void core() {
        due.promise("Promise 21");
        Roomandhour x = oneRoom(2, 3, 2);
        due.is(x.core(), NONE, "core() without rules");
        x.addRule(Roomandhour.NOT_THEN, 0, 0);
        x.addRule(Roomandhour.AHEAD, 0, 1);
        due.is(x.core(), NONE, "core() with rules that can be kept");
        put(x, 50, 0);
        due.is(x.core(), NONE, "core() does not ask for the present timetable");
        x.addRule(Roomandhour.AHEAD, 1, 0);
        due.keeps(x, () -> x.core(), 6, "core() with AHEAD both ways");
        x.addRule(Roomandhour.TOGETHER, 0, 1);
        due.is(x.core(), 6, "core(): TOGETHER goes against the one room by itself, but is left out first");
        due.is(x.coreAt(0), 8, "coreAt(0): TOGETHER by itself");
        Roomandhour y = wide(2, 3);
        y.addLesson(0, 0, 1);
        y.addLesson(1, 1, 1);
        y.addLesson(2, 2, 1);
        y.addLesson(3, 3, 1);
        y.addRule(Roomandhour.AHEAD, 0, 1);
        y.addRule(Roomandhour.AHEAD, 1, 2);
        y.addRule(Roomandhour.AHEAD, 2, 0);
        y.addRule(Roomandhour.IN_ROOM, 3, 0);
        y.addRule(Roomandhour.IN_ROOM, 3, 1);
        due.is(y.core(), 7, "core(): the greatest numbers are left out first");
        due.is(y.cores(), 1, "cores(): the smallest set is another one");
        due.is(y.coreAt(0), 24, "coreAt(0)");
        y.dropRule(0);
        due.is(y.core(), 12, "core() behind dropRule");
        Roomandhour z = oneRoom(1, 1, 2);
        z.addRule(Roomandhour.NOT_THEN, 0, 0);
        due.is(z.core(), 0, "core(): the ground rules alone cannot be kept");
        Roomandhour w = oneRoom(2, 3, 1);
        w.addRule(Roomandhour.AT_MOST, 0, 3);
        w.addRule(Roomandhour.AT_MOST, 0, 0);
        w.addRule(Roomandhour.AT_MOST, 0, 0);
        due.is(w.core(), 2, "core() with AT_MOST twice");
    }

    private static void cores() {
        due.promise("Promise 22");
        Roomandhour x = wide(2, 3);
        due.is(x.cores(), 0, "cores() without lessons");
        due.noElement(x, () -> x.coreAt(0), "coreAt(0) without lessons");
        x.addLesson(0, 0, 1);
        x.addLesson(1, 1, 1);
        x.addRule(Roomandhour.NOT_THEN, 0, 0);
        due.is(x.cores(), 0, "cores() with a rule that can be kept");
        x.addRule(Roomandhour.AHEAD, 0, 1);
        x.addRule(Roomandhour.AHEAD, 1, 0);
        due.keeps(x, () -> x.cores(), 1, "cores() of AHEAD both ways");
        due.is(x.coreAt(0), 6, "coreAt(0) of AHEAD both ways");
        x.addRule(Roomandhour.TOGETHER, 0, 1);
        due.is(x.cores(), 3, "cores() with TOGETHER");
        due.promise("Promise 23");
        due.is(x.coreAt(0), 6, "coreAt(0)");
        due.is(x.coreAt(1), 10, "coreAt(1)");
        due.keeps(x, () -> x.coreAt(2), 12, "coreAt(2)");
        due.noElement(x, () -> x.coreAt(3), "coreAt(3)");
        due.noElement(x, () -> x.coreAt(-1), "coreAt(-1)");
        due.noElement(x, () -> x.coreAt(MIN), "coreAt(MIN)");
        due.noElement(x, () -> x.coreAt(MAX), "coreAt(MAX)");
        x.addRule(Roomandhour.AT_MOST, 1, 0);
        due.is(x.cores(), 1, "cores() with one rule that cannot be kept");
        due.is(x.coreAt(0), 16, "coreAt(0) with one rule that cannot be kept");
        due.noElement(x, () -> x.coreAt(1), "coreAt(1) with one rule that cannot be kept");
        x.dropRule(4);
        due.is(x.cores(), 3, "cores() behind dropRule");
        // Each of five pairs of rooms of a lesson, among the ten rules, goes against the other: five sets of two.
        Roomandhour y = wide(2, 3);
        for (int lesson = 0; lesson < 5; lesson++) {
            y.addLesson(lesson % 4, lesson % 4, 1);
            y.addRule(Roomandhour.IN_ROOM, lesson, 0);
        }
        for (int lesson = 0; lesson < 5; lesson++) {
            y.addRule(Roomandhour.IN_ROOM, lesson, 1);
        }
        due.is(y.cores(), 5, "cores() of ten rules");
        for (int lesson = 0; lesson < 5; lesson++) {
            due.is(y.coreAt(lesson), 33 << lesson, "coreAt(" + lesson + ") of ten rules");
        }
        due.is(y.core(), 33, "core() of ten rules");
    }

    private static void coresByGround() {
        due.promise("Promise 22");
        Roomandhour x = oneRoom(1, 1, 2);
        due.is(x.cores(), 1, "cores(): the empty set cannot be kept");
        due.promise("Promise 23");
        due.is(x.coreAt(0), 0, "coreAt(0): the empty set");
        due.noElement(x, () -> x.coreAt(1), "coreAt(1) behind the empty set");
        x.addRule(Roomandhour.NOT_THEN, 0, 0);
        due.is(x.cores(), 1, "cores(): the empty set alone");
        due.is(x.coreAt(0), 0, "coreAt(0): the empty set alone");
        x.addRoom(30);
        due.is(x.coreAt(0), 1, "coreAt(0) with another room");
        // Four slots are barred by any of two rules, two slots by one rule each.
        Roomandhour y = oneRoom(2, 3, 1);
        for (int slot = 0; slot < 5; slot++) {
            y.addRule(Roomandhour.NOT_THEN, 0, slot);
            y.addRule(Roomandhour.FREE, 0, slot);
        }
        due.is(y.cores(), 0, "cores(): the last slot is free");
        y.dropRule(9);
        y.addRule(Roomandhour.NOT_THEN, 0, 5);
        due.promise("Promise 22");
        due.is(y.cores(), 16, "cores(): one of two rules for each of four slots");
        due.promise("Promise 23");
        due.is(y.coreAt(0), 0b1101010101, "coreAt(0): the smallest of them");
        due.is(y.coreAt(15), 0b1110101010, "coreAt(15): the greatest of them");
    }

    private static void isNeeded() {
        due.promise("Promise 24");
        Roomandhour x = wide(2, 3);
        due.noIndex(x, () -> x.isNeeded(0), "isNeeded(0) without rules");
        x.addLesson(0, 0, 1);
        x.addLesson(1, 1, 1);
        x.addRule(Roomandhour.AHEAD, 0, 1);
        due.is(x.isNeeded(0), false, "isNeeded(0): there is a good timetable");
        x.addRule(Roomandhour.NOT_THEN, 0, 3);
        x.addRule(Roomandhour.AHEAD, 1, 0);
        due.is(x.isNeeded(0), true, "isNeeded(0)");
        due.is(x.isNeeded(1), false, "isNeeded(1): it has nothing to do with it");
        due.keeps(x, () -> x.isNeeded(2), true, "isNeeded(2)");
        for (int bad : new int[] {-1, 3, MIN, MAX}) {
            due.noIndex(x, () -> x.isNeeded(bad), "isNeeded(" + bad + ")");
        }
        x.addRule(Roomandhour.TOGETHER, 0, 1);
        due.is(x.isNeeded(0), false, "isNeeded(0): the others cannot be kept either");
        Roomandhour y = oneRoom(1, 1, 2);
        y.addRule(Roomandhour.NOT_THEN, 0, 0);
        due.is(y.isNeeded(0), false, "isNeeded(0): the ground rules cannot be kept");
    }

    // ---- rooms of a slot

    private static Roomandhour crowd() {
        Roomandhour x = new Roomandhour();
        x.addRoom(30);
        x.addRoom(20);
        for (int pupils : new int[] {25, 25, 18, 99}) {
            x.addClass(pupils, NONE);
            x.addTeacher();
        }
        x.addLesson(0, 0, 1);
        x.addLesson(1, 1, 1);
        x.addLesson(2, 2, 2);
        x.addLesson(3, 3, 1);
        return x;
    }

    private static void matched() {
        due.promise("Promise 25");
        Roomandhour x = crowd();
        due.noState(x, () -> x.matched(0), "matched(0) without a timetable");
        for (int bad : new int[] {-1, 6, MIN, MAX}) {
            due.noIndex(x, () -> x.matched(bad), "matched(" + bad + ") without a timetable");
        }
        put(x, 0, 0, 0, 30);
        due.is(x.matched(0), 2, "matched(0): two of three, whatever rooms they have");
        due.is(x.matched(1), 1, "matched(1): the second slot of the lesson 2");
        due.is(x.matched(2), 0, "matched(2): no lesson");
        due.is(x.matched(3), 0, "matched(3): no room has seats enough");
        due.noIndex(x, () -> x.matched(6), "matched(6)");
        put(x, 40, 30, 20, 31);
        due.is(x.matched(3), 2, "matched(3): over the end of a day, beside a lesson without a room");
        // The lesson 0 must leave its only small room to the other one.
        Roomandhour y = new Roomandhour();
        y.addRoom(10);
        y.addRoom(20);
        y.addLesson(y.addClass(5, NONE), y.addTeacher(), 1);
        y.addLesson(y.addClass(15, NONE), y.addTeacher(), 1);
        y.addLesson(y.addClass(5, NONE), y.addTeacher(), 1);
        put(y, 0, 0, 10);
        due.is(y.matched(0), 2, "matched(0): a small and a great class");
        put(y, 0, 0, 0);
        due.is(y.matched(0), 2, "matched(0): two rooms for three");
        y.addRoom(5);
        due.is(y.matched(0), 3, "matched(0): three rooms for three");
    }

    private static void unfit() {
        due.promise("Promise 26");
        Roomandhour x = crowd();
        due.noState(x, () -> x.unfit(0), "unfit(0) without a timetable");
        for (int bad : new int[] {-1, 6, MIN, MAX}) {
            due.noIndex(x, () -> x.unfit(bad), "unfit(" + bad + ") without a timetable");
        }
        put(x, 0, 0, 0, 30);
        due.is(x.unfit(0), 3, "unfit(0): two lessons for the greater room");
        due.is(x.unfit(1), 0, "unfit(1)");
        due.is(x.unfit(2), 0, "unfit(2)");
        due.is(x.unfit(3), 8, "unfit(3): a lesson without a room");
        put(x, 0, 0, 0, 0);
        due.is(x.unfit(0), 8, "unfit(0): the fewest lessons, not the smallest number");
        put(x, 0, 10, 0, 50);
        due.is(x.unfit(0), 0, "unfit(0): a great and a small class");
        put(x, 10, 20, 0, 50);
        due.is(x.unfit(1), 0, "unfit(1): the second slot of a lesson");
        due.noIndex(x, () -> x.unfit(6), "unfit(6)");
        x.addRoom(30);
        put(x, 10, 10, 0, 50);
        due.is(x.unfit(1), 0, "unfit(1) with three rooms");
        x.addLesson(0, 0, 1);
        x.addLesson(1, 1, 1);
        put(x, 0, 0, 0, 50, 10, 0);
        due.is(x.unfit(0), 0b100011, "unfit(0): three lessons for two great rooms, not four for three");
        put(x, 0, 0, 20, 50, 0, 0);
        due.is(x.unfit(0), 0b010011, "unfit(0): the smallest number of three lessons");
    }

    // ---- weights

    private static void setWeights() {
        due.promise("Promise 27");
        Roomandhour x = new Roomandhour();
        x.addRoom(30);
        x.addRoom(30);
        x.addTeacher();
        x.addClass(20, 0);
        x.addLesson(0, 0, 1);
        x.addLesson(0, 0, 1);
        put(x, 1, 20);
        due.is(x.setWeights(9, 0, 0), 1, "setWeights(9, 0, 0)");
        due.is(x.weight(), 18, "weight() of late hours");
        due.is(x.setWeights(0, 9, 0), 9, "setWeights(0, 9, 0)");
        due.is(x.weight(), 9, "weight() of rooms");
        due.is(x.setWeights(0, 0, 9), 0, "setWeights(0, 0, 9)");
        due.is(x.weight(), 9, "weight() of gaps");
        due.is(x.setWeights(2, 3, 4), 0, "setWeights(2, 3, 4)");
        due.is(x.weight(), 11, "weight() of all");
        for (int bad : new int[] {-1, 10, MIN, MAX}) {
            due.noArgument(x, () -> x.setWeights(bad, 1, 1), "setWeights(" + bad + ", 1, 1)");
            due.noArgument(x, () -> x.setWeights(1, bad, 1), "setWeights(1, " + bad + ", 1)");
            due.noArgument(x, () -> x.setWeights(1, 1, bad), "setWeights(1, 1, " + bad + ")");
        }
        due.is(x.weight(), 11, "weight() behind weights that are refused");
        stands(x, "the timetable stays", 1, 20);
        due.is(x.setWeights(0, 0, 0), 2, "setWeights(0, 0, 0)");
        due.is(x.weight(), 0, "weight() without weights");
    }

    private static void weight() {
        due.promise("Promise 28");
        Roomandhour x = new Roomandhour();
        due.noState(x, () -> x.weight(), "weight() without a timetable");
        x.addRoom(30);
        x.addRoom(30);
        x.addClass(20, 1);
        x.addClass(20, NONE);
        x.addTeacher();
        x.addTeacher();
        x.addLesson(0, 0, 1);
        x.addLesson(0, 1, 2);
        x.addLesson(1, 0, 1);
        put(x, 1, 11, 20);
        // Hours 0, 2 and 2; all at home; a gap of the teacher 0 between the slots 0 and 2.
        due.is(x.weight(), 5, "weight()");
        put(x, 0, 10, 20);
        due.is(x.weight(), 7, "weight(): two lessons are not at home, one class has no home");
        put(x, 1, 41, 30);
        due.is(x.weight(), 2, "weight(): the hour counts, not the slot, and no gap is between two days");
        put(x, 1, 1, 10);
        due.is(x.weight(), 2, "weight(): no gap between neighbours");
        // Over the end of a day: the last slot is the first hour of the next day.
        put(x, 1, 21, 0);
        due.is(x.weight(), 0, "weight(): over the end of a day");
        put(x, 1, 51, 0);
        due.is(x.weight(), 2, "weight(): in the last slot");
        Roomandhour y = wide(2, 3);
        y.addLesson(0, 0, 1);
        y.addLesson(1, 0, 1);
        y.addLesson(2, 0, 1);
        y.addLesson(3, 0, 1);
        y.setWeights(0, 0, 5);
        put(y, 0, 20, 30, 50);
        due.is(y.weight(), 10, "weight(): a gap on each day");
        put(y, 0, 20, 30, 10);
        due.is(y.weight(), 0, "weight(): a gap that is filled");
        put(y, 10, 20, 40, 50);
        due.is(y.weight(), 0, "weight(): free before the lessons");
        put(y, 10, 0, 40, 30);
        due.is(y.weight(), 0, "weight(): free behind the lessons");
        put(y, 0, 30, 0, 30);
        y.setGrid(2, 2);
        put(y, 0, 20, 30, 10);
        due.is(y.weight(), 0, "weight(): days of two hours have no gaps");
    }

    private static void best() {
        due.promise("Promise 29");
        Roomandhour e = new Roomandhour();
        due.is(e.best(), 0, "best() without lessons");
        due.is(e.weight(), 0, "weight() behind best() without lessons");
        Roomandhour x = new Roomandhour();
        x.addRoom(30);
        x.addRoom(30);
        x.addClass(20, 1);
        x.addClass(20, 1);
        x.addTeacher();
        x.addTeacher();
        x.addLesson(0, 0, 1);
        x.addLesson(1, 1, 1);
        due.is(x.best(), 0, "best(): both at home in first hours");
        stands(x, "the smallest of those", 1, 31);
        x.addRule(Roomandhour.TOGETHER, 0, 1);
        due.is(x.best(), 1, "best(): one of them is not at home");
        stands(x, "the smallest of those with TOGETHER", 0, 1);
        x.addRule(Roomandhour.IN_ROOM, 0, 1);
        due.is(x.best(), 1, "best() with IN_ROOM");
        stands(x, "the smallest of those with IN_ROOM", 1, 0);
        x.addRule(Roomandhour.APART, 0, 1);
        due.keeps(x, () -> x.best(), NONE, "best() with rules against each other");
        // Gaps: the teacher has the slots 0 and 2 by the rules, or pays for a late hour.
        Roomandhour y = wide(1, 3);
        y.addLesson(0, 0, 1);
        y.addLesson(1, 0, 1);
        y.addRule(Roomandhour.NOT_THEN, 1, 0);
        y.addRule(Roomandhour.NOT_THEN, 1, 1);
        y.setWeights(1, 1, 1);
        due.is(y.best(), 3, "best(): a gap weighs as much as an hour");
        stands(y, "a gap", 0, 20);
        y.setWeights(1, 1, 2);
        due.is(y.best(), 3, "best(): a gap weighs more than an hour");
        stands(y, "no gap", 10, 20);
        y.setWeights(2, 1, 1);
        due.is(y.best(), 5, "best(): a gap weighs less than an hour");
        stands(y, "a gap again", 0, 20);
        Roomandhour z = oneRoom(1, 1, 2);
        due.keeps(z, () -> z.best(), NONE, "best() without a good one");
        due.noState(z, () -> z.at(0), "at(0) behind it");
        bestFillsGap(3);
        bestFillsGap(4);
    }

    /** The lessons 1 and 2 of a teacher are in the slots 0 and 2; the last lesson fills the gap, or is in the slot 4. */
    private static void bestFillsGap(int last) {
        Roomandhour x = wide(2, 3);
        x.addLesson(1, 1, 2);
        x.addLesson(1, 0, 1);
        x.addLesson(2, 0, 1);
        if (last == 4) {
            x.addLesson(0, 2, 1);
        }
        x.addLesson(3, 0, 1);
        x.addRule(Roomandhour.FREE, 0, 3);
        x.addRule(Roomandhour.FREE, 0, 5);
        x.addRule(Roomandhour.AHEAD, 1, 2);
        x.addRule(Roomandhour.NOT_THEN, 1, 1);
        x.addRule(Roomandhour.NOT_THEN, 1, 2);
        x.addRule(Roomandhour.NOT_THEN, 2, 1);
        x.addRule(Roomandhour.NOT_THEN, 2, 4);
        x.addRule(Roomandhour.NOT_THEN, 0, 5);
        x.setWeights(1, 1, 9);
        due.is(x.best(), 4, "best(): the lesson 0 on the second day, the gap filled");
        stands(x, "the gap filled", 30, 0, 20);
        due.is(x.at(last), 10, "at(" + last + ") that fills the gap");
        x.addRule(Roomandhour.NOT_THEN, last, 1);
        due.is(x.best(), 13, "best(): the gap cannot be filled");
        stands(x, "the gap not filled", 30, 0, 20);
        due.is(x.at(last), 41, "at(" + last + ") that does not fill the gap");
    }

    private static void bound() {
        due.promise("Promise 30");
        Roomandhour x = new Roomandhour();
        due.is(x.bound(), 0, "bound() without lessons");
        x.addRoom(30);
        x.addRoom(20);
        x.addClass(25, 1);
        x.addClass(20, 1);
        x.addTeacher();
        x.addLesson(0, 0, 1);
        due.is(x.bound(), 1, "bound(): the home room is too small");
        x.addLesson(1, 0, 2);
        due.keeps(x, () -> x.bound(), 2, "bound(): two slots end in the hour 1 at the best");
        x.setWeights(3, 5, 9);
        due.is(x.bound(), 8, "bound() with other weights, without gaps");
        x.addRule(Roomandhour.FREE, 0, 0);
        due.is(x.bound(), 8, "bound(): the second day is free");
        x.addRule(Roomandhour.FREE, 0, 3);
        due.is(x.bound(), 14, "bound(): the lessons end in the hours 1 and 2");
        x.addRule(Roomandhour.IN_ROOM, 1, 0);
        due.is(x.bound(), 19, "bound() with IN_ROOM");
        x.addRule(Roomandhour.NOT_THEN, 0, 1);
        due.is(x.bound(), 19, "bound(): the slot 4 is left");
        x.addRule(Roomandhour.AT_MOST, 0, 0);
        due.is(x.bound(), 19, "bound(): AT_MOST takes no value away");
        x.addRule(Roomandhour.IN_ROOM, 0, 1);
        due.is(x.bound(), NONE, "bound(): no value is left");
    }

    private static void improve() {
        due.promise("Promise 31");
        Roomandhour x = new Roomandhour();
        due.noState(x, () -> x.improve(), "improve() without a timetable");
        x.first();
        due.is(x.improve(), 0, "improve() without lessons");
        for (int room = 0; room < 3; room++) {
            x.addRoom(30);
            x.addTeacher();
        }
        for (int room = 0; room < 3; room++) {
            x.addLesson(x.addClass(20, room), room, 1);
        }
        x.setWeights(1, 4, 1);
        put(x, 1, 0, 2);
        due.is(x.improve(), 8, "improve() by two lessons");
        stands(x, "both at home", 0, 1, 2);
        due.keeps(x, () -> x.improve(), 0, "improve() when all are at home");
        put(x, 1, 2, 0);
        due.is(x.improve(), 12, "improve() by three lessons");
        stands(x, "all three at home", 0, 1, 2);
        put(x, 1, 1, 2);
        due.noState(x, () -> x.improve(), "improve() with two lessons in a room");
        x.addRule(Roomandhour.IN_ROOM, 0, 1);
        put(x, 0, 1, 2);
        due.noState(x, () -> x.improve(), "improve() with a rule that is broken");
        put(x, 1, 0, 2);
        due.keeps(x, () -> x.improve(), 0, "improve(): the rule stands against it");
        x.dropRule(0);
    }

    private static void improveByLongRings() {
        due.promise("Promise 31");
        Roomandhour x = new Roomandhour();
        x.addRoom(30);
        x.addRoom(30);
        for (int lesson = 0; lesson < 4; lesson++) {
            x.addLesson(x.addClass(20, lesson % 2), x.addTeacher(), 1);
        }
        x.setWeights(0, 1, 0);
        put(x, 1, 10, 31, 40);
        due.is(x.improve(), 4, "improve() by four lessons");
        stands(x, "each one has the value of the next one", 10, 31, 40, 1);
        // With NOT_THEN several rings are as good as each other: the shortest and smallest one is taken.
        put(x, 1, 10, 31, 40);
        x.addRule(Roomandhour.NOT_THEN, 1, 3);
        x.addRule(Roomandhour.NOT_THEN, 0, 3);
        x.addRule(Roomandhour.NOT_THEN, 0, 4);
        due.is(x.improve(), 2, "improve() by the first of two rings");
        stands(x, "the first ring", 10, 1, 31, 40);
        due.is(x.improve(), 2, "improve() by the second ring");
        stands(x, "the second ring", 10, 1, 40, 31);
        // Lengths: the lesson of two slots cannot give its value to one of one slot.
        Roomandhour y = new Roomandhour();
        y.addRoom(30);
        y.addRoom(30);
        y.addLesson(y.addClass(20, 0), y.addTeacher(), 1);
        y.addLesson(y.addClass(20, 1), y.addTeacher(), 2);
        put(y, 1, 0);
        due.keeps(y, () -> y.improve(), 0, "improve() with lessons of different lengths");
        // A ring must leave the timetable good: the seats.
        Roomandhour z = new Roomandhour();
        z.addRoom(30);
        z.addRoom(20);
        z.addLesson(z.addClass(15, 0), z.addTeacher(), 1);
        z.addLesson(z.addClass(25, 1), z.addTeacher(), 1);
        put(z, 1, 0);
        due.keeps(z, () -> z.improve(), 0, "improve() with seats that are not enough");
        // A smaller weight, not an equal one: two lessons of one class at different hours.
        Roomandhour w = oneRoom(1, 3, 2);
        put(w, 20, 0);
        due.keeps(w, () -> w.improve(), 0, "improve() with the same weight");
    }

    // ---- a teacher away, shares, exams

    private static void away() {
        due.promise("Promise 32");
        Roomandhour x = oneRoom(2, 3, 2);
        due.noState(x, () -> x.away(0, 0), "away(0, 0) without a timetable");
        due.noIndex(x, () -> x.away(2, 0), "away(2, 0) without a timetable");
        put(x, 0, 30);
        for (int bad : new int[] {-1, 2, MIN, MAX}) {
            due.noIndex(x, () -> x.away(bad, 0), "away(" + bad + ", 0)");
            due.noIndex(x, () -> x.away(0, bad), "away(0, " + bad + ")");
        }
        due.keeps(x, () -> x.away(0, 1), 0, "away(0, 1): the teacher is away already");
        due.is(x.away(0, 0), 1, "away(0, 0)");
        stands(x, "the fewest moves, not the smallest timetable", 40, 30);
        due.is(x.broken(), 0, "no rule is added");
        due.is(x.count(4), 0, "count(4)");
        put(x, 40, 40);
        due.is(x.away(0, 0), 1, "away(0, 0): the present timetable need not be good");
        stands(x, "the smallest of those with one move", 30, 40);
        x.addRule(Roomandhour.AHEAD, 0, 1);
        put(x, 0, 30);
        due.is(x.away(0, 0), 2, "away(0, 0) with AHEAD");
        stands(x, "two moves", 30, 40);
        x.addRule(Roomandhour.NOT_THEN, 1, 4);
        x.addRule(Roomandhour.NOT_THEN, 1, 5);
        due.keeps(x, () -> x.away(0, 0), NONE, "away(0, 0): no such timetable");
        stands(x, "nothing changes", 30, 40);
        // A move of a room counts as well as one of a slot.
        Roomandhour y = wide(2, 2);
        y.addLesson(0, 0, 2);
        y.addLesson(1, 1, 1);
        put(y, 2, 21);
        due.is(y.away(0, 0), 1, "away(0, 0) with a lesson of two slots");
        stands(y, "the smallest room that is free", 20, 21);
        y.setGrid(1, 2);
        y.first();
        due.noIndex(y, () -> y.away(0, 1), "away(0, 1) in a grid of one day");
        due.keeps(y, () -> y.away(0, 0), NONE, "away(0, 0) in a grid of one day");
        due.keeps(y, () -> y.away(3, 0), 0, "away(3, 0): a teacher without lessons");
    }

    private static void against() {
        due.promise("Promise 33");
        Roomandhour x = wide(2, 3);
        x.addLesson(0, 0, 1);
        for (int bad : new int[] {-1, 4, MIN, MAX}) {
            due.noIndex(x, () -> x.against(bad, 0), "against(" + bad + ", 0)");
        }
        for (int bad : new int[] {-1, 2, MIN, MAX}) {
            due.noIndex(x, () -> x.against(0, bad), "against(0, " + bad + ")");
        }
        due.is(x.against(0, 0), NONE, "against(0, 0) without rules");
        x.addRule(Roomandhour.NOT_THEN, 0, 3);
        x.addRule(Roomandhour.IN_ROOM, 0, 0);
        x.addRule(Roomandhour.NOT_THEN, 0, 4);
        due.is(x.against(0, 0), NONE, "against(0, 0): the slot 5 is free");
        x.addRule(Roomandhour.FREE, 0, 5);
        due.is(x.against(0, 0), 0b1101, "against(0, 0)");
        due.keeps(x, () -> x.against(0, 1), NONE, "against(0, 1)");
        due.is(x.against(1, 0), NONE, "against(1, 0): a teacher without lessons");
        x.addRule(Roomandhour.FREE, 0, 4);
        due.is(x.against(0, 0), 0b1101, "against(0, 0): the greatest numbers are left out first");
        x.addRule(Roomandhour.AT_MOST, 0, 0);
        due.is(x.against(0, 0), 0b1101, "against(0, 0): a rule that cannot be kept at all");
        due.is(x.against(0, 1), 0b100000, "against(0, 1): a rule that cannot be kept at all");
        due.is(x.core(), 0b100000, "core(): without the wish");
        Roomandhour y = oneRoom(1, 3, 1);
        due.is(y.against(0, 0), 0, "against(0, 0): the ground rules alone stand against it");
        Roomandhour z = new Roomandhour();
        z.addTeacher();
        due.is(z.against(0, 1), NONE, "against(0, 1) without lessons");
    }

    private static void fairest() {
        due.promise("Promise 34");
        Roomandhour e = new Roomandhour();
        due.is(e.fairest(), true, "fairest() without lessons");
        due.is(e.weight(), 0, "weight() behind it");
        // Four lessons of one class in four slots, two of them last hours; two teachers.
        Roomandhour x = wide(2, 2);
        for (int lesson = 0; lesson < 4; lesson++) {
            x.addLesson(0, lesson % 2, 1);
        }
        x.first();
        stands(x, "the first one", 0, 10, 20, 30);
        due.is(x.share(1), 2, "share(1) in the first one");
        due.is(x.fairest(), true, "fairest()");
        stands(x, "one last hour each", 0, 10, 30, 20);
        x.addRule(Roomandhour.NOT_THEN, 0, 1);
        x.addRule(Roomandhour.NOT_THEN, 0, 3);
        x.addRule(Roomandhour.NOT_THEN, 2, 1);
        x.addRule(Roomandhour.NOT_THEN, 2, 3);
        due.is(x.fairest(), true, "fairest() with rules");
        stands(x, "two last hours of one teacher", 0, 10, 20, 30);
        x.addRule(Roomandhour.AHEAD, 2, 0);
        x.addRule(Roomandhour.NOT_THEN, 2, 0);
        due.keeps(x, () -> x.fairest(), false, "fairest() without a good one");
        // The greatest share counts first: one teacher with 2 is less fair than three with 1.
        Roomandhour y = new Roomandhour();
        y.setGrid(2, 1);
        y.addRoom(30);
        y.addRoom(30);
        for (int k = 0; k < 4; k++) {
            y.addClass(20, NONE);
            y.addTeacher();
        }
        y.addLesson(0, 0, 1);
        y.addLesson(1, 0, 1);
        y.addLesson(2, 1, 1);
        due.is(y.fairest(), true, "fairest() in days of one hour");
        stands(y, "all hours are last hours", 0, 10, 1);
    }

    private static void share() {
        due.promise("Promise 35");
        Roomandhour x = wide(2, 3);
        x.addLesson(0, 0, 1);
        x.addLesson(1, 0, 2);
        x.addLesson(2, 1, 1);
        due.noState(x, () -> x.share(0), "share(0) without a timetable");
        for (int bad : new int[] {-1, 4, MIN, MAX}) {
            due.noIndex(x, () -> x.share(bad), "share(" + bad + ") without a timetable");
        }
        put(x, 20, 40, 10);
        due.is(x.share(0), 2, "share(0)");
        due.is(x.share(1), 0, "share(1)");
        due.is(x.share(3), 0, "share(3): no lessons");
        put(x, 0, 20, 50);
        due.is(x.share(0), 1, "share(0): over the end of a day");
        due.is(x.share(1), 1, "share(1): in the last slot");
        put(x, 10, 30, 30);
        due.is(x.share(0), 0, "share(0): no last hour");
        put(x, 20, 10, 0);
        due.is(x.share(0), 2, "share(0): two lessons in one last hour count twice");
        due.noIndex(x, () -> x.share(4), "share(4)");
        x.setGrid(2, 1);
        put(x, 10, 0, 10);
        due.is(x.share(0), 2, "share(0): a lesson that covers two last hours counts once");
        x.setGrid(1, 2);
        put(x, 0, 0, 10);
        due.is(x.share(0), 1, "share(0) in one day of two hours");
    }

    private static Roomandhour exams() {
        Roomandhour x = wide(2, 3);
        x.addLesson(0, 0, 1);
        x.addLesson(1, 1, 1);
        x.addLesson(0, 2, 1);
        x.addLesson(1, 2, 2);
        return x;
    }

    private static void examDays() {
        due.promise("Promise 36");
        Roomandhour x = exams();
        due.is(x.examDays(0), 0, "examDays(0)");
        due.is(x.examDays(0b0001), 1, "examDays: one lesson");
        due.is(x.examDays(0b0011), 1, "examDays: no conflict");
        due.is(x.examDays(0b0101), 2, "examDays: the same class");
        due.is(x.examDays(0b1100), 2, "examDays: the same teacher");
        due.is(x.examDays(0b1111), 2, "examDays: a path of conflicts");
        for (int bad : new int[] {-1, 16, 17, 31, MIN, MAX}) {
            due.noArgument(x, () -> x.examDays(bad), "examDays(" + bad + ")");
        }
        x.addLesson(0, 3, 1);
        x.addLesson(0, 3, 1);
        due.is(x.examDays(0b111111), 4, "examDays: four of one class");
        due.is(x.examDays(0b110000), 2, "examDays: the same class and teacher");
        due.noArgument(x, () -> x.examDays(64), "examDays(64)");
        Roomandhour y = wide(1, 1);
        due.noArgument(y, () -> y.examDays(1), "examDays(1) without lessons");
        for (int k = 0; k < 6; k++) {
            y.addLesson(0, 0, 1);
        }
        due.is(y.examDays(63), 6, "examDays(63): six of one class");
    }

    private static void examDay() {
        due.promise("Promise 37");
        Roomandhour x = exams();
        // By turns the lesson 3 would need a third day: two are enough if the lesson 1 is on the second.
        int[] days = {0, 1, 1, 0};
        for (int lesson = 0; lesson < 4; lesson++) {
            due.is(x.examDay(0b1111, lesson), days[lesson], "examDay(15, " + lesson + ")");
        }
        due.is(x.examDay(0b0010, 1), 0, "examDay(2, 1)");
        due.is(x.examDay(0b1110, 1), 0, "examDay(14, 1)");
        due.is(x.examDay(0b1110, 2), 0, "examDay(14, 2)");
        due.is(x.examDay(0b1110, 3), 1, "examDay(14, 3)");
        due.is(x.examDay(0b1010, 3), 1, "examDay(10, 3)");
        due.noArgument(x, () -> x.examDay(0b1010, 2), "examDay(10, 2): not one of them");
        due.noArgument(x, () -> x.examDay(0, 2), "examDay(0, 2)");
        for (int bad : new int[] {-1, 16, MIN, MAX}) {
            due.noArgument(x, () -> x.examDay(bad, 0), "examDay(" + bad + ", 0)");
            due.noIndex(x, () -> x.examDay(bad, 4), "examDay(" + bad + ", 4)");
            due.noIndex(x, () -> x.examDay(15, bad < 0 ? bad : MAX), "examDay(15, " + bad + ")");
        }
        Roomandhour y = wide(1, 1);
        for (int k = 0; k < 6; k++) {
            y.addLesson(0, 0, 1);
        }
        due.is(y.examDay(63, 5), 5, "examDay(63, 5): six of one class");
    }

    // ---- checks

    private static void count() {
        due.promise("Promise 38");
        Roomandhour x = new Roomandhour();
        x.addRoom(1);
        x.addRoom(1);
        x.addRoom(1);
        x.addClass(1, NONE);
        x.addTeacher();
        x.addTeacher();
        for (int k = 0; k < 4; k++) {
            x.addLesson(0, k % 2, 1);
        }
        for (int k = 0; k < 5; k++) {
            x.addRule(Roomandhour.IN_ROOM, 0, 0);
        }
        int[] want = {1, 2, 3, 4, 5, 6};
        for (int what = 0; what < 6; what++) {
            due.is(x.count(what), want[what], "count(" + what + ")");
        }
        for (int bad : new int[] {-1, 6, MIN, MAX}) {
            due.noArgument(x, () -> x.count(bad), "count(" + bad + ")");
        }
    }

    private static void checksum() {
        due.promise("Promise 39");
        Roomandhour x = oneRoom(2, 3, 2);
        due.is(x.checksum(), sum(-1, -1), "checksum() without a timetable");
        x.addRule(Roomandhour.AHEAD, 1, 0);
        x.addRule(Roomandhour.FREE, 0, 5);
        due.is(x.checksum(), sum(4, 1, 0, 7, 0, 5, -1, -1), "checksum() with rules");
        put(x, 50, 20);
        due.is(x.checksum(), sum(4, 1, 0, 7, 0, 5, 50, 20), "checksum() with a timetable");
        for (int k = 0; k < 8; k++) {
            x.addRule(Roomandhour.FREE, 1, 5);
        }
        long c = sum(4, 1, 0, 7, 0, 5);
        for (int k = 0; k < 8; k++) {
            c = ((31 * c + 7) * 31 + 1) * 31 + 5;
        }
        due.is(x.checksum(), (31 * c + 50) * 31 + 20, "checksum() that wraps");
    }

    private static void meanHour() {
        due.promise("Promise 40");
        Roomandhour x = new Roomandhour();
        due.noState(x, () -> x.meanHour(), "meanHour() without a timetable");
        x.first();
        due.is(x.meanHour(), 0.0, "meanHour() without lessons");
        Roomandhour y = oneRoom(2, 3, 3);
        y.addLesson(0, 0, 2);
        due.noState(y, () -> y.meanHour(), "meanHour() without a timetable, with lessons");
        put(y, 0, 50, 40, 10);
        due.is(y.meanHour(), 1.0, "meanHour()");
        put(y, 0, 50, 30, 10);
        due.is(y.meanHour(), 0.75, "meanHour(): the hours in which the lessons begin");
        y.setGrid(2, 2);
        put(y, 30, 20, 10, 0);
        due.is(y.meanHour(), 0.5, "meanHour() in days of two hours");
        Roomandhour z = oneRoom(2, 3, 3);
        put(z, 10, 0, 30);
        due.is(z.meanHour(), 1.0 / 3.0, "meanHour() of three lessons");
    }

    private static void usedShare() {
        due.promise("Promise 41");
        Roomandhour x = new Roomandhour();
        due.noState(x, () -> x.usedShare(), "usedShare() without a timetable");
        x.first();
        due.is(x.usedShare(), 0.0f, "usedShare() without rooms");
        x.addRoom(30);
        due.is(x.usedShare(), 0.0f, "usedShare() without lessons");
        Roomandhour y = wide(2, 3);
        y.addLesson(0, 0, 2);
        y.addLesson(1, 1, 1);
        put(y, 0, 1);
        due.is(y.usedShare(), 3.0f / 18.0f, "usedShare()");
        put(y, 0, 10);
        due.is(y.usedShare(), 2.0f / 18.0f, "usedShare(): a pair counts once");
        put(y, 20, 31);
        due.is(y.usedShare(), 3.0f / 18.0f, "usedShare(): over the end of a day");
        put(y, 50, 31);
        due.is(y.usedShare(), 2.0f / 18.0f, "usedShare(): in the last slot");
        y.setGrid(1, 2);
        put(y, 2, 12);
        due.is(y.usedShare(), 2.0f / 6.0f, "usedShare() in another grid");
    }

    private static void errors() {
        due.promise("Promise 42");
        Roomandhour x = crowd();
        due.keeps(x, () -> x.errors(), 0, "errors() with a lesson without a room");
        x.addRoom(99);
        due.keeps(x, () -> x.errors(), 0, "errors() with too many timetables");
        Roomandhour y = oneRoom(2, 3, 3);
        due.keeps(y, () -> y.errors(), 0, "errors() with good timetables");
        put(y, 50, 50, 50);
        y.addRule(Roomandhour.AHEAD, 0, 1);
        due.keeps(y, () -> y.errors(), 0, "errors() with a timetable that is not good");
        y.addRule(Roomandhour.AHEAD, 1, 0);
        due.keeps(y, () -> y.errors(), 0, "errors() without a good timetable");
        Roomandhour z = oneRoom(1, 1, 3);
        due.keeps(z, () -> z.errors(), 0, "errors() when the ground rules cannot be kept");
    }
}
