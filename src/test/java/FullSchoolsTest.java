import java.util.Arrays;
import java.util.Random;

/**
 * Full schools (six lessons, three rooms, days of three hours), which have too many timetables for the Model to keep.
 * What is solved is compared with a walk, in their order, through the timetables that break no rule up to each lesson.
 */
public final class FullSchoolsTest {
    /** Thrown where a walk takes too long. */
    private static final class TooLong extends RuntimeException {
        private static final long serialVersionUID = 1L;
    }

    private static final int PLAIN = 0, LIGHTEST = 1, FAIREST = 2, NEAREST = 3;

    private int wrong = 0;
    private int asked = 0;
    private int good = 0;
    private int given = 0;
    private Roomandhour x;
    private Model m;
    private StringBuilder log;
    // What a walk looks for, and what it has found.
    private int set, teacher, day, goal;
    private int[] behind;
    private int[] found;
    private int[] foundCost;
    private int steps;
    private int mostSteps;

    public static void main(String[] args) {
        int number = args.length > 0 ? Integer.parseInt(args[0]) : 150;
        long seed = args.length > 1 ? Long.parseLong(args[1]) : 1;
        int most = args.length > 2 ? Integer.parseInt(args[2]) : 100000;
        FullSchoolsTest test = new FullSchoolsTest();
        test.mostSteps = most;
        for (int k = 0; k < number && test.wrong < 5; k++) {
            test.school(new Random(seed * 7919 + k));
        }
        System.out.println(number + " schools, " + test.good + " with a good timetable, " + test.asked + " answers compared, "
            + test.given + " left out, " + test.wrong + " wrong");
        if (test.wrong > 0 || test.good * 5 < number) {
            System.exit(1);
        }
    }

    private void school(Random random) {
        x = new Roomandhour();
        m = new Model();
        log = new StringBuilder();
        build(random);
        int before = wrong;
        solve(random);
        if (wrong > before) {
            System.out.println("in the school" + log);
        }
    }

    private void build(Random random) {
        grid(random.nextInt(5) == 0 ? 1 : 2, random.nextInt(5) == 0 ? 2 : 3);
        int[] seats = {20, 20 + 10 * random.nextInt(2), 30};
        for (int room = 0; room < 3; room++) {
            log.append(" addRoom(").append(seats[room]).append(')');
            same("addRoom", x.addRoom(seats[room]), m.addRoom(seats[room]));
        }
        int people = 2 + random.nextInt(3);
        for (int k = 0; k < people; k++) {
            int pupils = random.nextInt(4) == 0 ? 25 : 15;
            int home = random.nextInt(4) - 1;
            log.append(" addClass(").append(pupils).append(", ").append(home).append(") addTeacher()");
            same("addClass", x.addClass(pupils, home), m.addClass(pupils, home));
            same("addTeacher", x.addTeacher(), m.addTeacher());
        }
        int longOnes = random.nextInt(4);
        for (int k = 0; k < 6; k++) {
            int of = random.nextInt(people);
            int by = random.nextInt(people);
            int length = random.nextInt(6) < longOnes ? 2 : 1;
            log.append(" addLesson(").append(of).append(", ").append(by).append(", ").append(length).append(')');
            same("addLesson", x.addLesson(of, by, length), m.addLesson(of, by, length));
        }
        int rules = random.nextInt(4) == 0 ? 10 : random.nextInt(7);
        for (int k = 0; k < rules; k++) {
            rule(random, people);
        }
        int[] weights = {random.nextInt(10), random.nextInt(10), random.nextInt(10)};
        log.append(" setWeights").append(Arrays.toString(weights));
        same("setWeights", x.setWeights(weights[0], weights[1], weights[2]), m.setWeights(weights[0], weights[1], weights[2]));
    }

    private void grid(int days, int hours) {
        log.append(" setGrid(").append(days).append(", ").append(hours).append(')');
        same("setGrid", x.setGrid(days, hours), m.setGrid(days, hours));
    }

    private void rule(Random random, int people) {
        int kind = random.nextInt(8);
        int a = random.nextInt(kind == Roomandhour.AT_MOST || kind == Roomandhour.FREE ? people : 6);
        int b;
        switch (kind) {
            case Roomandhour.NOT_THEN:
            case Roomandhour.FREE:
                b = random.nextInt(m.slots());
                break;
            case Roomandhour.AT_MOST:
                b = 1 + random.nextInt(3);
                break;
            case Roomandhour.IN_ROOM:
                b = random.nextInt(3);
                break;
            default:
                b = (a + 1 + random.nextInt(5)) % 6;
                break;
        }
        log.append(" addRule(").append(kind).append(", ").append(a).append(", ").append(b).append(')');
        same("addRule", x.addRule(kind, a, b), m.addRule(kind, a, b));
    }

    // ---- the questions

    private void solve(Random random) {
        int all = (1 << m.rules.size()) - 1;
        for (int lesson = 0; lesson < 6; lesson++) {
            same("left(" + lesson + ")", x.left(lesson), m.left(lesson));
        }
        same("bound()", x.bound(), m.bound());
        same("errors()", x.errors(), 0);
        try {
            boolean some = walk(all, -1, 0, PLAIN, null);
            good += some ? 1 : 0;
            made("first()", x.first() ? 1 : 0, some ? 1 : 0, found);
            for (int k = 0; k < 4 && some; k++) {
                if (random.nextBoolean()) {
                    shove(random);
                }
                boolean more = walk(all, -1, 0, PLAIN, m.now);
                made("next()", x.next() ? 1 : 0, more ? 1 : 0, found);
            }
        } catch (TooLong tooLong) {
            given++;
        }
        dearest(random, all);
        sets(random, all);
        if (m.now != null && m.isGood(m.now)) {
            same("improve()", x.improve(), m.improve());
            standsAsDue("improve()");
        }
    }

    private void dearest(Random random, int all) {
        try {
            boolean some = walk(all, -1, 0, LIGHTEST, null);
            made("best()", x.best(), some ? foundCost[0] : -1, found);
            walk(all, -1, 0, FAIREST, null);
            made("fairest()", x.fairest() ? 1 : 0, some ? 1 : 0, found);
        } catch (TooLong tooLong) {
            given++;
        }
        for (int k = 0; k < 3; k++) {
            int who = random.nextInt(m.teachers);
            int when = random.nextInt(m.days);
            shove(random);
            try {
                boolean some = walk(all, who, when, NEAREST, null);
                made("away(" + who + ", " + when + ")", x.away(who, when), some ? foundCost[0] : -1, found);
            } catch (TooLong tooLong) {
                given++;
            }
        }
    }

    private void sets(Random random, int all) {
        int who = random.nextInt(m.teachers);
        int when = random.nextInt(m.days);
        try {
            same("core()", x.core(), core(all, -1, 0));
            same("against(" + who + ", " + when + ")", x.against(who, when), core(all, who, when));
            for (int rule = 0; rule < m.rules.size(); rule++) {
                boolean due = !walk(all, -1, 0, PLAIN, null) && walk(all & ~(1 << rule), -1, 0, PLAIN, null);
                same("isNeeded(" + rule + ")", x.isNeeded(rule) ? 1 : 0, due ? 1 : 0);
            }
            cores(all);
        } catch (TooLong tooLong) {
            given++;
        }
    }

    private int core(int all, int who, int when) {
        if (walk(all, who, when, PLAIN, null)) {
            return -1;
        }
        int in = all;
        for (int rule = m.rules.size() - 1; rule >= 0; rule--) {
            if (!walk(in & ~(1 << rule), who, when, PLAIN, null)) {
                in &= ~(1 << rule);
            }
        }
        return in;
    }

    private void cores(int all) {
        int number = 0;
        if (!walk(all, -1, 0, PLAIN, null)) {
            for (int size = 0; number == 0; size++) {
                for (int some = 0; some <= all; some++) {
                    if (Integer.bitCount(some) == size && !walk(some, -1, 0, PLAIN, null)) {
                        same("coreAt(" + number + ")", x.coreAt(number), some);
                        number++;
                    }
                }
            }
        }
        same("cores()", x.cores(), number);
    }

    /** Gives some lessons of the present timetable other values, whatever rules are broken. */
    private void shove(Random random) {
        for (int k = random.nextInt(4); k >= 0; k--) {
            int lesson = random.nextInt(6);
            int slot = random.nextInt(m.slots());
            int room = random.nextInt(3);
            log.append(" place(").append(lesson).append(", ").append(slot).append(", ").append(room).append(')');
            same("place", x.place(lesson, slot, room), m.place(lesson, slot, room));
        }
    }

    private void made(String call, int got, int due, int[] table) {
        log.append(' ').append(call);
        same(call, got, due);
        if (table != null) {
            m.now = table.clone();
        }
        standsAsDue(call);
    }

    private void standsAsDue(String call) {
        asked++;
        if (x.checksum() != m.checksum()) {
            wrong++;
            System.out.println(call + " made another timetable than " + Arrays.toString(m.now));
        }
    }

    private void same(String call, int got, int due) {
        asked++;
        if (got != due) {
            wrong++;
            System.out.println(call + " answered " + got + ", due is " + due);
        }
    }

    // ---- the walk

    /** The smallest timetable with the least cost that keeps these rules; behind a table (or null); while one is away. */
    private boolean walk(int rules, int who, int when, int cost, int[] table) {
        set = rules;
        teacher = who;
        day = when;
        goal = cost;
        behind = table;
        found = null;
        foundCost = null;
        steps = 0;
        step(new int[6], 0, table != null);
        return found != null;
    }

    private void step(int[] table, int lesson, boolean tight) {
        if (++steps > mostSteps) {
            throw new TooLong();
        }
        int[] cost = cost(table, lesson);
        if (foundCost != null && Arrays.compare(cost, foundCost) >= 0) {
            return;
        }
        if (lesson == 6) {
            if (!tight) {
                found = table.clone();
                foundCost = cost;
            }
            return;
        }
        for (int slot = 0; slot < m.slots(); slot++) {
            for (int room = 0; room < 3; room++) {
                int value = 10 * slot + room;
                if (tight && value < behind[lesson] || goal == PLAIN && found != null) {
                    continue;
                }
                table[lesson] = value;
                if (fits(table, lesson)) {
                    step(table, lesson + 1, tight && value == behind[lesson]);
                }
            }
        }
    }

    /** Whether a lesson breaks no rule together with the lessons ahead of it. */
    private boolean fits(int[] table, int lesson) {
        if (!m.keepsA(lesson, table[lesson] / 10) || !m.keepsB(lesson, table[lesson] % 10)) {
            return false;
        }
        for (int other = 0; other < lesson; other++) {
            boolean apart = m.sameClass(lesson, other) || m.sameTeacher(lesson, other) || table[lesson] % 10 == table[other] % 10;
            if (apart && (cover(lesson, table) & cover(other, table)) != 0) {
                return false;
            }
        }
        if (m.lessons.get(lesson).teacher == teacher && m.day(table[lesson] / 10) == day) {
            return false;
        }
        for (int k = 0; k < m.rules.size(); k++) {
            if ((set >> k) % 2 != 0 && !keeps(m.rules.get(k), table, lesson)) {
                return false;
            }
        }
        return true;
    }

    private boolean keeps(int[] rule, int[] table, int lesson) {
        int a = rule[1];
        int b = rule[2];
        int slot = table[lesson] / 10;
        int by = m.lessons.get(lesson).teacher;
        switch (rule[0]) {
            case Roomandhour.NOT_THEN:
                return a != lesson || (cover(lesson, table) >> b) % 2 == 0;
            case Roomandhour.FREE:
                return a != by || (cover(lesson, table) >> b) % 2 == 0;
            case Roomandhour.IN_ROOM:
                return a != lesson || table[lesson] % 10 == b;
            case Roomandhour.AT_MOST:
                return a != by || slotsOnDay(table, lesson, by, m.day(slot)) <= b;
            default:
                return Math.max(a, b) != lesson || m.pairRule(rule, table[a], table[b]);
        }
    }

    private int slotsOnDay(int[] table, int upTo, int by, int on) {
        int taken = 0;
        for (int k = 0; k <= upTo; k++) {
            if (m.lessons.get(k).teacher == by && m.day(table[k] / 10) == on) {
                taken |= cover(k, table);
            }
        }
        return Integer.bitCount(taken);
    }

    /** The slots of a lesson that stays on its day. */
    private int cover(int lesson, int[] table) {
        return (m.lessons.get(lesson).length == 2 ? 3 : 1) << table[lesson] / 10;
    }

    /** What the lessons ahead of this one cost at least; exact with all six. */
    private int[] cost(int[] table, int lesson) {
        switch (goal) {
            case LIGHTEST:
                return new int[] {lesson == 6 ? m.weightOf(table) : weightWithoutGaps(table, lesson)};
            case FAIREST:
                return shares(table, lesson);
            case NEAREST:
                int moved = 0;
                for (int k = 0; k < lesson; k++) {
                    moved += table[k] != m.now[k] ? 1 : 0;
                }
                return new int[] {moved};
            default:
                return new int[] {0};
        }
    }

    private int weightWithoutGaps(int[] table, int number) {
        int sum = 0;
        for (int k = 0; k < number; k++) {
            int home = m.classes.get(m.lessons.get(k).schoolClass)[1];
            sum += m.late * (m.lastOf(k, table[k] / 10) % m.hours);
            sum += home != -1 && home != table[k] % 10 ? m.roomWeight : 0;
        }
        return sum;
    }

    private int[] shares(int[] table, int number) {
        int[] row = new int[m.teachers];
        for (int k = 0; k < number; k++) {
            if (m.lastOf(k, table[k] / 10) % m.hours == m.hours - 1) {
                row[m.lessons.get(k).teacher]++;
            }
        }
        Arrays.sort(row);
        int[] falling = new int[row.length];
        for (int k = 0; k < row.length; k++) {
            falling[k] = row[row.length - 1 - k];
        }
        return falling;
    }
}
