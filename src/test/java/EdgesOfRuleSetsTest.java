/** The boundary cases of promises 21 to 24: sets of rules that cannot be kept together. */
public final class EdgesOfRuleSetsTest extends Schools {
    private static final String DOWN = "it is got from all told rules by going through them from the greatest number down, and leaving out each one without which the others that are still in cannot be kept together either";
    private static final String SMALLEST = "Returns how many sets with the smallest number of rules there are that cannot be kept together.";

    public static void main(String[] args) throws Exception {
        Edges.run(EdgesOfRuleSetsTest.class, Edges.promises(21, 24));
    }

    /** Ten rules that bar two lessons in one room from all slots but one, the same one: all of them are needed. */
    private static Roomandhour tenNeeded() {
        Roomandhour x = oneRoom(2, 3, 2);
        for (int slot = 0; slot < 5; slot++) {
            x.addRule(Roomandhour.NOT_THEN, 0, slot);
            x.addRule(Roomandhour.FREE, 1, slot);
        }
        return x;
    }

    /** So many rules of which none can be kept by itself. */
    private static Roomandhour hopeless(int rules) {
        Roomandhour x = oneRoom(2, 3, 1);
        for (int k = 0; k < rules; k++) {
            x.addRule(Roomandhour.AT_MOST, 0, 0);
        }
        return x;
    }

    // ---- core

    @Edge(of = "Promise 21", says = "NONE if there is a good timetable")
    static void coreWithoutRules() {
        due.is(new Roomandhour().core(), NONE, "core() of a new school");
        Roomandhour x = oneRoom(1, 1, 1);
        due.keeps(x, () -> x.core(), NONE, "core() without rules");
    }

    @Edge(of = "Promise 21", says = "NONE if there is a good timetable")
    static void coreOfRulesThatAreKept() {
        Roomandhour x = full();
        due.keeps(x, () -> x.core(), NONE, "core() of ten rules that can be kept together");
        Roomandhour y = oneRoom(2, 3, 2);
        y.addRule(Roomandhour.AHEAD, 1, 0);
        put(y, 0, 50);
        due.keeps(y, () -> y.core(), NONE, "core() of a rule that the present timetable breaks");
    }

    @Edge(of = "Promise 21", says = "0 if it is empty")
    static void coreOfTheGroundRules() {
        Roomandhour x = oneRoom(1, 1, 2);
        due.keeps(x, () -> x.core(), 0, "core() without rules, when the ground rules cannot be kept");
        for (int k = 0; k < 10; k++) {
            x.addRule(Roomandhour.AT_MOST, 0, k % 4);
        }
        due.keeps(x, () -> x.core(), 0, "core() with ten rules, when the ground rules cannot be kept");
        x.addRoom(30);
        due.is(x.core(), 1, "core() when they can: AT_MOST 0 by itself");
    }

    @Edge(of = "Promise 21", says = "(the ground rules hold as well)")
    static void coreThatNeedsTheGroundRules() {
        Roomandhour x = oneRoom(2, 3, 2);
        x.addRule(Roomandhour.TOGETHER, 0, 1);
        due.is(x.core(), 1, "core(): together in one room");
        x.addRoom(20);
        due.is(x.core(), NONE, "core(): together in two rooms");
        Roomandhour y = oneRoom(2, 3, 2);
        y.addRoom(19);
        y.addRule(Roomandhour.TOGETHER, 0, 1);
        due.is(y.core(), 1, "core(): the second room has too few seats");
    }

    @Edge(of = "Promise 21", says = DOWN)
    static void coreOfTheSameRuleTenTimes() {
        for (int rules = 1; rules <= 10; rules++) {
            due.is(hopeless(rules).core(), 1, "core() of " + rules + " rules of which each one cannot be kept");
        }
    }

    @Edge(of = "Promise 21", says = "and of which none can be left out")
    static void coreOfAllTenRules() {
        Roomandhour x = tenNeeded();
        due.is(x.core(), 1023, "core() of ten rules that are all needed");
        x.dropRule(0);
        due.is(x.core(), NONE, "core() of nine of them");
    }

    @Edge(of = "Promise 21", says = DOWN)
    static void coreOfTheGreatestNumber() {
        Roomandhour x = oneRoom(2, 3, 1);
        for (int k = 0; k < 9; k++) {
            x.addRule(Roomandhour.NOT_THEN, 0, k % 5);
        }
        due.is(x.core(), NONE, "core(): the last slot is free");
        x.addRule(Roomandhour.NOT_THEN, 0, 5);
        // The slots 0 to 3 are barred twice: of their rules those with the smaller numbers stay in.
        due.is(x.core(), 0b1000011111, "core(): the last slot is barred by the greatest number");
    }

    @Edge(of = "Promise 21", says = DOWN)
    static void coreIsNotTheSmallestSet() {
        Roomandhour x = lessons(2, 3, 1, 1);
        x.addRule(Roomandhour.AHEAD, 0, 1);
        x.addRule(Roomandhour.AHEAD, 1, 0);
        x.addRule(Roomandhour.AT_MOST, 0, 0);
        due.is(x.core(), 3, "core(): the rule 2 is left out first, though it cannot be kept by itself");
        due.is(x.coreAt(0), 4, "coreAt(0)");
    }

    // ---- cores and coreAt

    @Edge(of = "Promise 22", says = "0 if there is a good timetable")
    static void coresWithAGoodOne() {
        due.is(new Roomandhour().cores(), 0, "cores() of a new school");
        Roomandhour x = full();
        due.keeps(x, () -> x.cores(), 0, "cores() of ten rules that can be kept together");
    }

    @Edge(of = "Promise 22", says = SMALLEST)
    static void coresOfTheEmptySet() {
        Roomandhour x = oneRoom(1, 1, 2);
        due.keeps(x, () -> x.cores(), 1, "cores() without rules, when the ground rules cannot be kept");
        for (int k = 0; k < 10; k++) {
            x.addRule(Roomandhour.AT_MOST, 0, 0);
        }
        due.is(x.cores(), 1, "cores() with ten rules: the empty set alone has no rule");
        due.is(x.coreAt(0), 0, "coreAt(0)");
        due.noElement(x, () -> x.coreAt(1), "coreAt(1)");
    }

    @Edge(of = "Promise 22", says = SMALLEST)
    static void coresOfOneRule() {
        for (int rules = 1; rules <= 10; rules++) {
            due.is(hopeless(rules).cores(), rules, "cores() of " + rules + " rules of which each one cannot be kept");
        }
    }

    @Edge(of = "Promise 22", says = SMALLEST)
    static void coresOfAllTenRules() {
        Roomandhour x = tenNeeded();
        due.is(x.cores(), 1, "cores() of ten rules that are all needed");
        due.is(x.coreAt(0), 1023, "coreAt(0)");
        x.dropRule(9);
        due.is(x.cores(), 0, "cores() of nine of them");
    }

    @Edge(of = "Promise 22", says = SMALLEST)
    static void greaterSetsDoNotCount() {
        Roomandhour x = lessons(2, 3, 1, 1);
        x.addRule(Roomandhour.AHEAD, 0, 1);
        x.addRule(Roomandhour.AHEAD, 1, 0);
        x.addRule(Roomandhour.IN_ROOM, 0, 0);
        x.addRule(Roomandhour.IN_ROOM, 0, 1);
        due.is(x.cores(), 2, "cores(): two sets of two rules");
        x.addRule(Roomandhour.AT_MOST, 1, 0);
        due.is(x.cores(), 1, "cores(): one set of one rule");
        x.dropRule(4);
        due.is(x.cores(), 2, "cores(): two sets of two rules again");
        x.dropRule(3);
        due.is(x.cores(), 1, "cores(): one set of two rules");
        x.dropRule(0);
        due.is(x.cores(), 0, "cores(): no set");
    }

    @Edge(of = "Promise 23", says = "index: 0 for the one that is the smallest number")
    static void coreAtInOrder() {
        Roomandhour x = lessons(2, 3, 1, 1);
        // Four rooms that are told for a lesson, each two of them against each other: but for the same ones.
        for (int room : new int[] {2, 0, 2, 1}) {
            x.addRule(Roomandhour.IN_ROOM, 1, room);
        }
        int[] sets = {0b0011, 0b0110, 0b1001, 0b1010, 0b1100};
        due.is(x.cores(), sets.length, "cores()");
        for (int k = 0; k < sets.length; k++) {
            due.is(x.coreAt(k), sets[k], "coreAt(" + k + ")");
        }
    }

    @Edge(of = "Promise 23", says = "NoSuchElementException if there is none")
    static void indexOfCoreAt() {
        for (int rules = 0; rules <= 10; rules += 5) {
            Roomandhour x = hopeless(rules);
            for (int bad : new int[] {-1, rules, rules + 1, MIN, MAX}) {
                due.noElement(x, () -> x.coreAt(bad), "coreAt(" + bad + ") of " + rules + " sets");
            }
            for (int k = 0; k < rules; k++) {
                due.is(x.coreAt(k), 1 << k, "coreAt(" + k + ") of " + rules + " sets");
            }
        }
    }

    @Edge(of = "Promise 23", says = "NoSuchElementException if there is none")
    static void coreAtWithAGoodOne() {
        Roomandhour x = full();
        due.noElement(x, () -> x.coreAt(0), "coreAt(0) of ten rules that can be kept together");
        Roomandhour e = new Roomandhour();
        due.noElement(e, () -> e.coreAt(0), "coreAt(0) of a new school");
        due.noElement(e, () -> e.coreAt(-1), "coreAt(-1) of a new school");
    }

    @Edge(of = "Promise 23", says = "NoSuchElementException if there is none")
    static void coreAtBehindEachChange() {
        Roomandhour x = oneRoom(1, 1, 2);
        due.is(x.coreAt(0), 0, "coreAt(0): the empty set");
        x.addRoom(30);
        due.noElement(x, () -> x.coreAt(0), "coreAt(0) behind addRoom");
        x.addRule(Roomandhour.APART, 0, 1);
        due.is(x.coreAt(0), 1, "coreAt(0) behind addRule");
        x.setGrid(2, 1);
        due.noElement(x, () -> x.coreAt(0), "coreAt(0) behind setGrid");
        x.addRule(Roomandhour.NEAR, 0, 1);
        due.is(x.coreAt(0), 2, "coreAt(0) behind another rule");
        x.addLesson(0, 0, 2);
        due.is(x.coreAt(0), 0, "coreAt(0) behind addLesson: two slots in days of one hour");
        x.setGrid(2, 2);
        due.is(x.coreAt(0), 3, "coreAt(0) behind another setGrid");
        x.dropRule(0);
        due.noElement(x, () -> x.coreAt(0), "coreAt(0) behind dropRule");
    }

    // ---- isNeeded

    @Edge(of = "Promise 24", says = "rule: a rule")
    static void ruleOfIsNeeded() {
        for (int rules = 0; rules <= 10; rules += 5) {
            Roomandhour x = hopeless(rules);
            for (int bad : new int[] {-1, rules, 10, MIN, MAX}) {
                due.noIndex(x, () -> x.isNeeded(bad), "isNeeded(" + bad + ") with " + rules + " rules");
            }
        }
    }

    @Edge(of = "Promise 24", says = "Tells whether there is no good timetable, but would be one without a rule.")
    static void theOnlyRule() {
        Roomandhour x = hopeless(1);
        due.keeps(x, () -> x.isNeeded(0), true, "isNeeded(0) of the only rule");
        Roomandhour y = hopeless(2);
        due.is(y.isNeeded(0), false, "isNeeded(0): without it the other one cannot be kept either");
        due.is(y.isNeeded(1), false, "isNeeded(1): without it the other one cannot be kept either");
    }

    @Edge(of = "Promise 24", says = "Tells whether there is no good timetable, but would be one without a rule.")
    static void allTenRules() {
        Roomandhour x = tenNeeded();
        for (int rule = 0; rule < 10; rule++) {
            due.is(x.isNeeded(rule), true, "isNeeded(" + rule + ") of ten rules that are all needed");
        }
        x.dropRule(9);
        for (int rule = 0; rule < 9; rule++) {
            due.is(x.isNeeded(rule), false, "isNeeded(" + rule + ") of nine of them");
        }
    }

    @Edge(of = "Promise 24", says = "Tells whether there is no good timetable")
    static void allRulesKeptTogether() {
        Roomandhour x = full();
        for (int rule = 0; rule < 10; rule++) {
            due.is(x.isNeeded(rule), false, "isNeeded(" + rule + "): there is a good timetable");
        }
        put(x, 0, 0, 0, 0, 0, 0);
        due.keeps(x, () -> x.isNeeded(0), false, "isNeeded(0): also if the present one is not good");
    }

    @Edge(of = "Promise 24", says = "but would be one without a rule")
    static void theGroundRulesAlone() {
        Roomandhour x = oneRoom(1, 1, 2);
        x.addRule(Roomandhour.AT_MOST, 0, 0);
        due.is(x.isNeeded(0), false, "isNeeded(0): the ground rules cannot be kept without it");
        x.addRoom(30);
        due.is(x.isNeeded(0), true, "isNeeded(0): they can with another room");
    }

    @Edge(of = "Promise 24", says = "but would be one without a rule")
    static void twoReasonsAtOnce() {
        Roomandhour x = lessons(2, 3, 1, 1);
        x.addRule(Roomandhour.AHEAD, 0, 1);
        x.addRule(Roomandhour.AHEAD, 1, 0);
        due.is(x.isNeeded(0), true, "isNeeded(0) of one reason");
        x.addRule(Roomandhour.IN_ROOM, 0, 0);
        x.addRule(Roomandhour.IN_ROOM, 0, 1);
        for (int rule = 0; rule < 4; rule++) {
            due.is(x.isNeeded(rule), false, "isNeeded(" + rule + ") of two reasons");
        }
    }
}
