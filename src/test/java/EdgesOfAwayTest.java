/** The boundary cases of promises 32 to 35, and of the moves and shares in section 5. */
public final class EdgesOfAwayTest extends Schools {
    private static final String AWAY = "away() looks for a good timetable in which the lessons of a teacher cover no slot of a day, and that differs from the present timetable in as few lessons as possible; of several the smallest one.";
    private static final String FAIRER = "A timetable is fairer than another one if its shares, sorted in descending order, are smaller in lexicographic order.";
    private static final String SHARE = "The share of a teacher is the number of the lessons of the teacher that cover the last hour of a day.";

    public static void main(String[] args) throws Exception {
        Edges.run(EdgesOfAwayTest.class, Edges.promises(32, 35, "Section 5"));
    }

    // ---- away

    @Edge(of = "Promise 32", says = "teacher: a teacher")
    static void teacherOfAway() {
        Roomandhour x = new Roomandhour();
        x.first();
        for (int teachers = 0; teachers <= 4; teachers++) {
            for (int bad : new int[] {-1, teachers, 4, MIN, MAX}) {
                due.noIndex(x, () -> x.away(bad, 0), "away(" + bad + ", 0) with " + teachers + " teachers");
            }
            if (teachers < 4) {
                x.addTeacher();
                due.keeps(x, () -> x.away(x.count(1) - 1, 0), 0, "away() of the last teacher, without lessons");
            }
        }
    }

    @Edge(of = "Promise 32", says = "also if there is no such day")
    static void dayOfAway() {
        for (int days = 1; days <= 2; days++) {
            Roomandhour x = oneRoom(days, 3, 1);
            x.first();
            for (int bad : new int[] {-1, days, 2, MIN, MAX}) {
                due.noIndex(x, () -> x.away(0, bad), "away(0, " + bad + ") in " + days + " days");
            }
            due.is(x.away(0, days - 1), days == 1 ? NONE : 0, "away(0, " + (days - 1) + "), the last day");
        }
    }

    @Edge(of = "Promise 32", says = "IllegalStateException if there is no timetable")
    static void awayWithoutATimetable() {
        Roomandhour x = oneRoom(2, 3, 1);
        due.noState(x, () -> x.away(0, 0), "away(0, 0)");
        x.first();
        x.setGrid(2, 3);
        due.noState(x, () -> x.away(0, 0), "away(0, 0) behind setGrid");
    }

    @Edge(of = "Promise 32", says = "Returns how many lessons get another value")
    static void nothingToMove() {
        Roomandhour x = oneRoom(2, 3, 2);
        put(x, 50, 0);
        due.keeps(x, () -> x.away(0, 0), 0, "away(0, 0): the teacher is away already");
        stands(x, "not the smallest one, but the present one", 50, 0);
        Roomandhour y = oneRoom(2, 3, 1);
        y.addTeacher();
        y.place(0, 2, 0);
        due.keeps(y, () -> y.away(1, 0), 0, "away(1, 0): a teacher without lessons");
    }

    @Edge(of = "Promise 32", says = "Returns how many lessons get another value")
    static void allLessonsMove() {
        Roomandhour x = wide(2, 3);
        for (int k = 0; k < 3; k++) {
            x.addLesson(k, 0, 1);
        }
        put(x, 0, 10, 20);
        due.is(x.away(0, 0), 3, "away(0, 0): all three lessons");
        stands(x, "the smallest one", 30, 40, 50);
        due.is(x.away(0, 1), 3, "away(0, 1): and back");
        stands(x, "the smallest one", 0, 10, 20);
    }

    @Edge(of = "Promise 32", says = "if there is none, nothing changes")
    static void noWayToBeAway() {
        Roomandhour x = oneRoom(1, 3, 2);
        put(x, 20, 0);
        due.keeps(x, () -> x.away(0, 0), NONE, "away(0, 0) in one day");
        Roomandhour y = wide(2, 1);
        y.addLesson(0, 0, 1);
        y.addLesson(1, 0, 1);
        put(y, 0, 10);
        due.keeps(y, () -> y.away(0, 0), NONE, "away(0, 0): two lessons, one slot on the other day");
        stands(y, "it stays", 0, 10);
    }

    @Edge(of = "Promise 32", says = "NONE if there is no such timetable")
    static void rulesAgainstBeingAway() {
        Roomandhour x = oneRoom(2, 3, 1);
        x.place(0, 2, 0);
        x.addRule(Roomandhour.FREE, 0, 3);
        x.addRule(Roomandhour.FREE, 0, 5);
        due.is(x.away(0, 0), 1, "away(0, 0): one slot of the other day is not barred");
        stands(x, "that slot", 40);
        x.addRule(Roomandhour.NOT_THEN, 0, 4);
        due.keeps(x, () -> x.away(0, 0), NONE, "away(0, 0): no slot of the other day");
        due.is(x.away(0, 1), 1, "away(0, 1): the first day is not barred");
        stands(x, "on the first day", 0);
    }

    @Edge(of = "Section 5", says = AWAY)
    static void presentOneThatIsNotGood() {
        Roomandhour x = oneRoom(2, 3, 3);
        put(x, 30, 30, 30);
        due.is(x.away(0, 0), 2, "away(0, 0): the teacher is away, but three lessons are in one room");
        stands(x, "the smallest of those with two moves", 30, 0, 10);
        Roomandhour y = oneRoom(1, 1, 2);
        put(y, 0, 0);
        due.keeps(y, () -> y.away(0, 0), NONE, "away(0, 0) where none is good");
    }

    @Edge(of = "Section 5", says = AWAY)
    static void fewestMovesThenTheSmallest() {
        Roomandhour x = oneRoom(2, 3, 2);
        put(x, 20, 30);
        due.is(x.away(0, 0), 1, "away(0, 0): one move, though two would make a smaller timetable");
        stands(x, "the smallest of those with one move", 40, 30);
        Roomandhour y = lessons(2, 3, 1, 1);
        put(y, 0, 30);
        due.is(y.away(0, 0), 1, "away(0, 0) with other rooms");
        stands(y, "another room beside the other lesson", 31, 30);
    }

    @Edge(of = "Section 5", says = AWAY)
    static void bothSlotsOfALesson() {
        Roomandhour x = lessons(2, 3, 2);
        x.place(0, 2, 0);
        due.is(x.away(0, 0), 1, "away(0, 0) of a lesson over the end of a day");
        stands(x, "on the second day", 30);
        x.place(0, 2, 0);
        due.is(x.away(0, 1), 1, "away(0, 1) of a lesson over the end of a day");
        stands(x, "on the first day", 0);
        x.setGrid(2, 1);
        x.place(0, 0, 0);
        due.keeps(x, () -> x.away(0, 0), NONE, "away(0, 0) of two slots in days of one hour");
    }

    @Edge(of = "Promise 32", says = "(No rule is added.)")
    static void noRuleIsAdded() {
        Roomandhour x = full();
        due.is(x.away(0, 0), 2, "away(0, 0) with ten rules");
        due.is(x.count(4), 10, "count(4)");
        Roomandhour y = oneRoom(2, 3, 1);
        y.first();
        due.is(y.away(0, 0), 1, "away(0, 0) without rules");
        due.is(y.count(4), 0, "count(4)");
        due.is(y.left(0), 6, "left(0): the first day is not barred");
        due.is(y.first(), true, "first()");
        stands(y, "on the first day again", 0);
        due.is(y.setGrid(2, 2), 4, "setGrid: no rule names a slot");
    }

    // ---- against

    @Edge(of = "Promise 33", says = "teacher: a teacher")
    static void teacherOfAgainst() {
        Roomandhour x = new Roomandhour();
        for (int teachers = 0; teachers <= 4; teachers++) {
            for (int bad : new int[] {-1, teachers, 4, MIN, MAX}) {
                due.noIndex(x, () -> x.against(bad, 0), "against(" + bad + ", 0) with " + teachers + " teachers");
            }
            if (teachers < 4) {
                x.addTeacher();
                due.is(x.against(teachers, 0), NONE, "against() of the last teacher");
            }
        }
    }

    @Edge(of = "Promise 33", says = "also if there is no such day")
    static void dayOfAgainst() {
        for (int days = 1; days <= 2; days++) {
            Roomandhour x = oneRoom(days, 3, 1);
            for (int bad : new int[] {-1, days, 2, MIN, MAX}) {
                due.noIndex(x, () -> x.against(0, bad), "against(0, " + bad + ") in " + days + " days");
            }
            due.is(x.against(0, days - 1), days == 1 ? 0 : NONE, "against(0, " + (days - 1) + "), the last day");
        }
    }

    @Edge(of = "Promise 33", says = "NONE if there is such a timetable")
    static void nothingAgainst() {
        Roomandhour x = full();
        for (int teacher = 0; teacher < 4; teacher++) {
            for (int day = 0; day < 2; day++) {
                int who = teacher;
                int when = day;
                due.keeps(x, () -> x.against(who, when), NONE, "against(" + teacher + ", " + day + ") with ten rules");
            }
        }
        Roomandhour y = oneRoom(2, 3, 1);
        due.keeps(y, () -> y.against(0, 0), NONE, "against(0, 0) without a timetable");
    }

    @Edge(of = "Promise 33", says = "as core(), with the wish as one more rule that is never left out")
    static void theWishByItself() {
        Roomandhour x = oneRoom(1, 3, 1);
        for (int k = 0; k < 10; k++) {
            x.addRule(Roomandhour.AT_MOST, 0, 3);
        }
        due.is(x.against(0, 0), 0, "against(0, 0): the wish cannot be kept without any rule");
        due.is(x.core(), NONE, "core(): without the wish all can be kept");
        Roomandhour y = oneRoom(1, 1, 2);
        y.addTeacher();
        y.addRule(Roomandhour.AT_MOST, 0, 0);
        due.is(y.against(2, 0), 0, "against(2, 0): the ground rules cannot be kept without the wish");
    }

    @Edge(of = "Promise 33", says = "as core(), with the wish as one more rule that is never left out")
    static void rulesAgainst() {
        Roomandhour x = oneRoom(2, 3, 1);
        for (int k = 0; k < 3; k++) {
            x.addRule(Roomandhour.NOT_THEN, 0, 3 + k);
            x.addRule(Roomandhour.FREE, 0, 3 + k);
        }
        due.is(x.against(0, 0), 0b010101, "against(0, 0): of two rules for a slot the one with the smaller number");
        due.is(x.against(0, 1), NONE, "against(0, 1)");
        due.is(x.core(), NONE, "core()");
        for (int k = 0; k < 4; k++) {
            x.addRule(Roomandhour.AT_MOST, 0, 0);
        }
        due.is(x.against(0, 0), 0b010101, "against(0, 0): the greatest numbers are left out first");
        due.is(x.against(0, 1), 0b001000000, "against(0, 1): a rule that cannot be kept by itself");
        for (int k = 0; k < 6; k++) {
            x.dropRule(0);
        }
        due.is(x.against(0, 0), 1, "against(0, 0): the first of four");
    }

    @Edge(of = "Promise 33", says = "Returns the told rules that stand against it, if a teacher cannot be away on a day")
    static void allRulesAgainst() {
        // Two lessons of a teacher: the rules bar each of them from all but one slot of the second day, the same one.
        Roomandhour x = wide(2, 3);
        x.addLesson(0, 0, 1);
        x.addLesson(1, 0, 1);
        for (int lesson = 0; lesson < 2; lesson++) {
            x.addRule(Roomandhour.NOT_THEN, lesson, 3);
            x.addRule(Roomandhour.NOT_THEN, lesson, 4);
        }
        due.is(x.against(0, 0), 0b1111, "against(0, 0): all four rules");
        for (int rule = 0; rule < 4; rule++) {
            x.dropRule(0);
            due.is(x.against(0, 0), NONE, "against(0, 0) with three of the rules");
            x.addRule(Roomandhour.NOT_THEN, rule / 2, 3 + rule % 2);
        }
    }

    // ---- fairest and share

    @Edge(of = "Promise 34", says = "Returns whether there is one.")
    static void fairestWithoutLessons() {
        Roomandhour x = new Roomandhour();
        due.is(x.fairest(), true, "fairest() without lessons and teachers");
        due.is(x.weight(), 0, "weight()");
        Roomandhour y = wide(1, 1);
        due.is(y.fairest(), true, "fairest() without lessons, with teachers");
        due.is(y.share(3), 0, "share(3)");
    }

    @Edge(of = "Promise 34", says = "if there is none, nothing changes")
    static void fairestWithoutAGoodOne() {
        Roomandhour x = oneRoom(1, 1, 2);
        due.keeps(x, () -> x.fairest(), false, "fairest() without a timetable");
        due.noState(x, () -> x.share(0), "share(0) behind it");
        put(x, 0, 0);
        due.keeps(x, () -> x.fairest(), false, "fairest() with a timetable that is not good");
        stands(x, "it stays", 0, 0);
    }

    @Edge(of = "Promise 34", says = "of several the smallest one")
    static void fairestOfThoseThatAreEqual() {
        Roomandhour x = oneRoom(2, 1, 2);
        put(x, 10, 0);
        due.is(x.fairest(), true, "fairest() in days of one hour: each slot is a last hour");
        stands(x, "the smallest one", 0, 10);
        Roomandhour y = oneRoom(2, 3, 4);
        put(y, 50, 20, 40, 30);
        due.is(y.fairest(), true, "fairest() where nobody must have a last hour");
        stands(y, "the smallest one without last hours", 0, 10, 30, 40);
    }

    @Edge(of = "Section 5", says = FAIRER)
    static void oneEachBeforeTwoOfOne() {
        // Four lessons fill the only room of 2 days of 2 hours: two of them have last hours.
        Roomandhour x = new Roomandhour();
        x.setGrid(2, 2);
        x.addRoom(30);
        x.addClass(20, NONE);
        x.addTeacher();
        x.addTeacher();
        for (int k = 0; k < 4; k++) {
            x.addLesson(0, k % 2, 1);
        }
        due.is(x.fairest(), true, "fairest()");
        stands(x, "1 and 1, not 2 and 0", 0, 10, 30, 20);
        for (int lesson = 0; lesson < 4; lesson += 2) {
            x.addRule(Roomandhour.NOT_THEN, lesson, 1);
            x.addRule(Roomandhour.NOT_THEN, lesson, 3);
        }
        due.is(x.fairest(), true, "fairest() where one teacher must have none");
        stands(x, "0 and 2", 0, 10, 20, 30);
    }

    @Edge(of = "Section 5", says = FAIRER)
    static void oneEachOfThreeBeforeTwoOfOne() {
        // The lesson 1 takes one day whole. On the other day the lesson 0, of its teacher, has the last hour, or
        // instead of it the lessons 2 and 3 together: three last hours in all are fairer than two of one teacher.
        Roomandhour x = new Roomandhour();
        x.setGrid(2, 2);
        x.addRoom(30);
        x.addRoom(30);
        for (int k = 0; k < 3; k++) {
            x.addClass(20, NONE);
            x.addTeacher();
        }
        x.addLesson(2, 0, 1);
        x.addLesson(1, 0, 2);
        x.addLesson(2, 1, 1);
        x.addLesson(1, 2, 1);
        x.addRule(Roomandhour.NOT_THEN, 3, 3);
        x.addRule(Roomandhour.TOGETHER, 2, 3);
        due.is(x.fairest(), true, "fairest()");
        stands(x, "1, 1 and 1, not 2, 0 and 0", 0, 20, 10, 11);
        x.addRule(Roomandhour.AHEAD, 2, 0);
        due.is(x.fairest(), true, "fairest() with the lesson 0 behind the others");
        stands(x, "2, 0 and 0", 10, 20, 0, 1);
        due.is(x.share(0), 2, "share(0)");
    }

    @Edge(of = "Promise 35", says = "teacher: a teacher")
    static void teacherOfShare() {
        Roomandhour x = new Roomandhour();
        x.first();
        for (int teachers = 0; teachers <= 4; teachers++) {
            for (int bad : new int[] {-1, teachers, 4, MIN, MAX}) {
                due.noIndex(x, () -> x.share(bad), "share(" + bad + ") with " + teachers + " teachers");
            }
            if (teachers < 4) {
                x.addTeacher();
                due.is(x.share(teachers), 0, "share() of the last teacher, without lessons");
            }
        }
    }

    @Edge(of = "Promise 35", says = "IllegalStateException if there is no timetable")
    static void shareWithoutATimetable() {
        Roomandhour x = full();
        x.setGrid(2, 3);
        due.noState(x, () -> x.share(0), "share(0)");
    }

    @Edge(of = "Section 5", says = SHARE)
    static void noneAndAllOfTheLessons() {
        Roomandhour x = wide(2, 3);
        for (int k = 0; k < 6; k++) {
            x.addLesson(k % 4, 2, 1);
        }
        put(x, 0, 10, 30, 40, 0, 10);
        due.is(x.share(2), 0, "share(2): no lesson in a last hour");
        put(x, 20, 50, 20, 50, 20, 50);
        due.is(x.share(2), 6, "share(2): all six lessons in last hours");
        due.is(x.share(1), 0, "share(1): another teacher");
    }

    @Edge(of = "Section 5", says = SHARE)
    static void lastHoursOfEachGrid() {
        for (int days = 1; days <= 2; days++) {
            for (int hours = 1; hours <= 3; hours++) {
                Roomandhour x = lessons(days, hours, 1, 2);
                int slots = days * hours;
                for (int slot = 0; slot < slots; slot++) {
                    put(x, 10 * slot, 10 * slot);
                    boolean first = slot == hours - 1 || slot == 2 * hours - 1;
                    boolean second = slot + 1 < slots && (slot + 1 == hours - 1 || slot + 1 == 2 * hours - 1);
                    due.is(x.share(0), first ? 1 : 0, "share(0) of the slot " + slot + ", " + days + " days of " + hours);
                    due.is(x.share(1), first || second ? 1 : 0, "share(1) of two slots from " + slot + " on, " + days + " days of " + hours);
                }
            }
        }
    }
}
