/** The boundary cases of promises 25 and 26: the lessons of one slot, and the rooms that fit. */
public final class EdgesOfRoomsTest extends Schools {
    private static final String FEWEST = "of all such sets one with the fewest lessons, of these the smallest number";

    public static void main(String[] args) throws Exception {
        Edges.run(EdgesOfRoomsTest.class, Edges.promises(25, 26));
    }

    /** A room for each of these seats, and a lesson of its own class for each of these pupils, all in the slot 0. */
    private static Roomandhour crowd(int[] seats, int... pupils) {
        Roomandhour x = new Roomandhour();
        for (int number : seats) {
            x.addRoom(number);
        }
        x.addTeacher();
        for (int number : pupils) {
            x.addLesson(x.addClass(number, NONE), 0, 1);
        }
        x.place(0, 0, 0);
        return x;
    }

    /** Six lessons that fit into each of so many rooms; the first ones are in the slot 0, the others in the slot 1. */
    private static Roomandhour sixLessons(int rooms, int here) {
        Roomandhour x = new Roomandhour();
        for (int k = 0; k < rooms; k++) {
            x.addRoom(20);
        }
        x.addClass(20, NONE);
        x.addTeacher();
        for (int k = 0; k < 6; k++) {
            x.addLesson(0, 0, 1);
        }
        for (int k = 0; k < 6; k++) {
            x.place(k, k < here ? 0 : 1, 0);
        }
        return x;
    }

    private static void is(Roomandhour x, int slot, int matched, int unfit, String name) {
        due.keeps(x, () -> x.matched(slot), matched, name + ": matched(" + slot + ")");
        due.keeps(x, () -> x.unfit(slot), unfit, name + ": unfit(" + slot + ")");
    }

    @Edge(of = "Promise 25", says = "IndexOutOfBoundsException see section 1")
    static void slotOfMatched() {
        for (int days = 1; days <= 2; days++) {
            for (int hours = 1; hours <= 3; hours++) {
                Roomandhour x = oneRoom(days, hours, 1);
                int slots = days * hours;
                x.place(0, slots - 1, 0);
                due.is(x.matched(slots - 1), 1, "matched(" + (slots - 1) + "), the last slot");
                for (int bad : new int[] {-1, slots, 6, MIN, MAX}) {
                    due.noIndex(x, () -> x.matched(bad), "matched(" + bad + ") of " + slots + " slots");
                }
            }
        }
    }

    @Edge(of = "Promise 26", says = "IndexOutOfBoundsException see section 1")
    static void slotOfUnfit() {
        for (int days = 1; days <= 2; days++) {
            for (int hours = 1; hours <= 3; hours++) {
                Roomandhour x = oneRoom(days, hours, 2);
                int slots = days * hours;
                put(x, 10 * slots - 10, 10 * slots - 10);
                due.is(x.unfit(slots - 1), 3, "unfit(" + (slots - 1) + "), the last slot");
                for (int bad : new int[] {-1, slots, 6, MIN, MAX}) {
                    due.noIndex(x, () -> x.unfit(bad), "unfit(" + bad + ") of " + slots + " slots");
                }
            }
        }
    }

    @Edge(of = "Promise 25", says = "IllegalStateException if there is no timetable")
    static void matchedWithoutATimetable() {
        Roomandhour x = oneRoom(1, 1, 1);
        due.noState(x, () -> x.matched(0), "matched(0)");
    }

    @Edge(of = "Promise 26", says = "IllegalStateException if there is no timetable")
    static void unfitWithoutATimetable() {
        Roomandhour x = oneRoom(1, 1, 1);
        due.noState(x, () -> x.unfit(0), "unfit(0)");
    }

    @Edge(of = "Promise 25", says = "how many of the lessons that cover a slot in the present timetable can get rooms")
    static void noLessonsAtAll() {
        Roomandhour x = new Roomandhour();
        x.first();
        is(x, 0, 0, 0, "neither lessons nor rooms");
        is(x, 5, 0, 0, "neither lessons nor rooms");
        x.addRoom(9);
        is(x, 3, 0, 0, "a room, but no lessons");
    }

    @Edge(of = "Promise 26", says = "0 if there is none")
    static void aSlotWithoutLessons() {
        Roomandhour x = sixLessons(1, 6);
        is(x, 1, 0, 0, "six lessons in another slot");
        is(x, 5, 0, 0, "six lessons in another slot");
    }

    @Edge(of = "Promise 25", says = "Returns the greatest number.")
    static void fewerAsManyAndMoreLessonsThanRooms() {
        for (int rooms = 1; rooms <= 3; rooms++) {
            for (int here = 0; here <= 6; here++) {
                Roomandhour x = sixLessons(rooms, here);
                due.is(x.matched(0), here < rooms ? here : rooms, "matched(0): " + here + " lessons, " + rooms + " rooms");
                due.is(x.matched(1), 6 - here < rooms ? 6 - here : rooms, "matched(1): " + (6 - here) + " lessons, " + rooms + " rooms");
            }
        }
    }

    @Edge(of = "Promise 26", says = "are more than the rooms that have seats enough for at least one of them")
    static void oneLessonMoreThanRooms() {
        for (int rooms = 1; rooms <= 3; rooms++) {
            for (int here = 0; here <= 6; here++) {
                Roomandhour x = sixLessons(rooms, here);
                int first = (2 << rooms) - 1;
                due.is(x.unfit(0), here > rooms ? first : 0, "unfit(0): " + here + " lessons, " + rooms + " rooms");
                due.is(x.unfit(1), 6 - here > rooms ? first << here : 0, "unfit(1): " + (6 - here) + " lessons, " + rooms + " rooms");
            }
        }
    }

    @Edge(of = "Promise 25", says = "each its own one, with seats enough")
    static void seatsEnough() {
        is(crowd(new int[] {20}, 20), 0, 1, 0, "as many seats as pupils");
        is(crowd(new int[] {20}, 21), 0, 0, 1, "one seat less than pupils");
        is(crowd(new int[] {99}, 99), 0, 1, 0, "the most pupils, the most seats");
        is(crowd(new int[] {98}, 99), 0, 0, 1, "the most pupils");
        is(crowd(new int[] {1, 1, 1}, 1, 1, 1), 0, 3, 0, "the fewest pupils, the fewest seats");
    }

    @Edge(of = "Promise 25", says = "can get rooms, each its own one")
    static void aRoomForEachClass() {
        is(crowd(new int[] {10, 20, 30}, 30, 20, 10), 0, 3, 0, "each one has a room that fits it alone");
        is(crowd(new int[] {10, 20, 30}, 30, 30, 10), 0, 2, 0b011, "two for the greatest room");
        is(crowd(new int[] {10, 20, 30}, 20, 20, 20), 0, 2, 0b111, "three for two rooms");
        is(crowd(new int[] {10, 20, 30}, 10, 10, 10, 10), 0, 3, 0b1111, "four for three rooms");
        is(crowd(new int[] {30, 30, 30}, 31, 31), 0, 0, 0b01, "no room for any of two");
    }

    @Edge(of = "Promise 25", says = "(whatever room they have)")
    static void whateverRoomTheyHave() {
        Roomandhour x = crowd(new int[] {10, 20, 30}, 30, 20, 10);
        for (int room = 0; room < 3; room++) {
            for (int lesson = 0; lesson < 3; lesson++) {
                x.place(lesson, 0, room);
            }
            is(x, 0, 3, 0, "all in the room " + room);
        }
        put(x, 0, 2, 1);
        is(x, 0, 3, 0, "each in a room of its own, but not in one that fits");
    }

    @Edge(of = "Promise 26", says = FEWEST)
    static void theFewestLessons() {
        // A pair for the greatest room, and a lesson for which there is none: one lesson is fewer than two.
        is(crowd(new int[] {10, 30}, 30, 30, 99), 0, 1, 0b100, "one lesson with the greatest number");
        is(crowd(new int[] {10, 30}, 99, 30, 30), 0, 1, 0b001, "one lesson with the smallest number");
        is(crowd(new int[] {10, 30}, 10, 10, 30, 30), 0, 2, 0b1100, "two of the greatest numbers, not three of the smallest");
    }

    @Edge(of = "Promise 26", says = FEWEST)
    static void theSmallestNumber() {
        is(crowd(new int[] {30}, 40, 40, 40, 40), 0, 0, 0b0001, "each of four lessons");
        is(crowd(new int[] {30}, 30, 30, 30, 30), 0, 1, 0b0011, "each two of four lessons");
        is(crowd(new int[] {10, 30, 20}, 30, 10, 20, 30), 0, 3, 0b1001, "two that are not neighbours");
        is(crowd(new int[] {10, 30, 20}, 10, 30, 30, 30), 0, 2, 0b0110, "each two of the last three");
    }

    @Edge(of = "Promise 26", says = "Returns a set of lessons that cover a slot in the present timetable")
    static void lessonsOfTwoSlots() {
        Roomandhour x = new Roomandhour();
        x.addRoom(20);
        x.addTeacher();
        x.addLesson(x.addClass(20, NONE), 0, 2);
        x.addLesson(x.addClass(20, NONE), 0, 1);
        put(x, 0, 10);
        is(x, 0, 1, 0, "the first slot of the lesson 0");
        is(x, 1, 1, 3, "the second slot of the lesson 0, and the lesson 1");
        is(x, 2, 0, 0, "the slot behind");
        put(x, 20, 30);
        is(x, 3, 1, 3, "over the end of a day");
        put(x, 50, 0);
        is(x, 5, 1, 0, "the last slot of all");
        is(x, 0, 1, 0, "the first slot of all: the lesson 0 does not come round to it");
    }
}
