import java.util.Arrays;
import java.util.NoSuchElementException;

/**
 * A timetable solver: lessons get a start and a room so that no rule is broken. README.md tells how to use it.
 *
 * <p>All rows are made once, in the constructors, and used again: no call makes an object, but for an exception.
 */
public final class Roomandhour {
    public static final int NONE = -1;
    public static final int NOT_THEN = 0, AT_MOST = 1, TOGETHER = 2, APART = 3, AHEAD = 4, NEAR = 5, IN_ROOM = 6, FREE = 7;

    private static final int MOST_DAYS = 2, MOST_HOURS = 3, MOST_SLOTS = 6;
    private static final int MOST_CLASSES = 4, MOST_TEACHERS = 4, MOST_ROOMS = 3, MOST_LESSONS = 6, MOST_RULES = 10;
    private static final int MOST_PEOPLE = 99, MOST_WEIGHT = 9;

    private final School school = new School();
    private final Timetable present = new Timetable();
    private final Timetable pictured = new Timetable();
    private final Judge judge = new Judge(school);
    private final Question question = new Question(school);
    private final Search search = new Search(school, question);
    private final Values values = new Values(school, question);
    private final RuleSets ruleSets = new RuleSets(school, judge, question, search);
    private final SlotRooms slotRooms = new SlotRooms(school);
    private final Rings rings = new Rings(school, judge);
    private final Exams exams = new Exams(school);
    private final Check check = new Check(school, judge, values);
    private final byte[] output = new byte[MOST_SLOTS + MOST_DAYS - 1];
    private int outputLength = 0;

    public Roomandhour() {
    }

    // ---- what there is

    public int setGrid(int days, int hours) throws IllegalArgumentException, IllegalStateException {
        if (days < 1 || days > MOST_DAYS || hours < 1 || hours > MOST_HOURS) {
            throw new IllegalArgumentException("there are 1 or 2 days with 1 to 3 hours");
        }
        if (school.hasRuleWithSlot()) {
            throw new IllegalStateException("a rule names a slot");
        }
        school.changes++;
        school.days = days;
        school.hours = hours;
        school.slots = days * hours;
        present.there = false;
        return school.slots;
    }

    public int addClass(int pupils, int home) throws IndexOutOfBoundsException, IllegalArgumentException, IllegalStateException {
        if (home != NONE) {
            needRoom(home);
        }
        if (pupils < 1 || pupils > MOST_PEOPLE) {
            throw new IllegalArgumentException("a class has 1 to 99 pupils");
        }
        if (school.classes >= MOST_CLASSES) {
            throw new IllegalStateException("there are 4 classes");
        }
        int number = school.classes;
        school.changes++;
        school.pupils[number] = pupils;
        school.home[number] = home;
        school.classes = number + 1;
        return number;
    }

    public int addTeacher() throws IllegalStateException {
        if (school.teachers >= MOST_TEACHERS) {
            throw new IllegalStateException("there are 4 teachers");
        }
        school.changes++;
        school.teachers++;
        return school.teachers - 1;
    }

    public int addRoom(int seats) throws IllegalArgumentException, IllegalStateException {
        if (seats < 1 || seats > MOST_PEOPLE) {
            throw new IllegalArgumentException("a room has 1 to 99 seats");
        }
        if (school.rooms >= MOST_ROOMS) {
            throw new IllegalStateException("there are 3 rooms");
        }
        int number = school.rooms;
        school.changes++;
        school.seats[number] = seats;
        school.rooms = number + 1;
        return number;
    }

    public int addLesson(int schoolClass, int teacher, int length) throws IndexOutOfBoundsException, IllegalArgumentException, IllegalStateException {
        if (schoolClass < 0 || schoolClass >= school.classes) {
            throw new IndexOutOfBoundsException("no such class");
        }
        needTeacher(teacher);
        if (length < 1 || length > 2) {
            throw new IllegalArgumentException("a lesson has 1 or 2 slots");
        }
        if (school.lessons >= MOST_LESSONS) {
            throw new IllegalStateException("there are 6 lessons");
        }
        int number = school.lessons;
        school.changes++;
        school.lessonClass[number] = schoolClass;
        school.lessonTeacher[number] = teacher;
        school.lessonLength[number] = length;
        school.lessons = number + 1;
        present.there = false;
        return number;
    }

    public int addRule(int kind, int a, int b) throws IllegalArgumentException, IllegalStateException {
        if (!school.canBeRule(kind, a, b)) {
            throw new IllegalArgumentException("no such rule");
        }
        if (school.rules >= MOST_RULES) {
            throw new IllegalStateException("there are 10 rules");
        }
        int number = school.rules;
        school.changes++;
        school.ruleKind[number] = kind;
        school.ruleA[number] = a;
        school.ruleB[number] = b;
        school.rules = number + 1;
        return number;
    }

    public int dropRule(int rule) throws IndexOutOfBoundsException {
        needRule(rule);
        school.changes++;
        school.removeRule(rule);
        return school.rules;
    }

    // ---- what is left

    public int left(int lesson) throws IndexOutOfBoundsException {
        needLesson(lesson);
        values.refresh();
        return Integer.bitCount(values.open[lesson]);
    }

    public int leftAt(int lesson, int index) throws IndexOutOfBoundsException, NoSuchElementException {
        needLesson(lesson);
        values.refresh();
        if (index < 0 || index >= Integer.bitCount(values.open[lesson])) {
            throw new NoSuchElementException("no such value is left");
        }
        return values.told(lesson, index);
    }

    // ---- timetables

    public boolean first() {
        question.ask(school.allRules());
        return take(search.cheapest());
    }

    public boolean next() throws IllegalStateException {
        needTimetable();
        return take(search.behind(present) ? 0 : NONE);
    }

    public int place(int lesson, int slot, int room) throws IndexOutOfBoundsException {
        needLesson(lesson);
        needSlot(slot);
        needRoom(room);
        int before = NONE;
        if (present.there) {
            before = present.valueOf(lesson);
        } else {
            present.begin(school.lessons);
        }
        present.slot[lesson] = slot;
        present.room[lesson] = room;
        return before;
    }

    public int at(int lesson) throws IndexOutOfBoundsException, IllegalStateException {
        needLesson(lesson);
        needTimetable();
        return present.valueOf(lesson);
    }

    public int broken() throws IllegalStateException {
        needTimetable();
        return judge.toldBroken(present);
    }

    public int groundFaults() throws IllegalStateException {
        needTimetable();
        return judge.faults(present);
    }

    public int image() throws IllegalStateException {
        needTimetable();
        boolean same = pictured.there && pictured.lessons == present.lessons;
        int changed = same ? present.differences(pictured) : NONE;
        pictured.copyFrom(present);
        return changed;
    }

    public int restore() throws IllegalStateException {
        if (!pictured.there || pictured.lessons != school.lessons) {
            throw new IllegalStateException("no image of these lessons");
        }
        if (!pictured.standsIn(school)) {
            throw new IllegalStateException("a value of the image does not exist any more");
        }
        int changed = present.there ? present.differences(pictured) : NONE;
        present.copyFrom(pictured);
        return changed;
    }

    public int print(int kind, int number) throws IllegalArgumentException, IndexOutOfBoundsException, IllegalStateException {
        if (kind < 0 || kind > 2) {
            throw new IllegalArgumentException("the kinds of rows are 0, 1 and 2");
        }
        int bound = kind == 0 ? school.classes : kind == 1 ? school.teachers : school.rooms;
        if (number < 0 || number >= bound) {
            throw new IndexOutOfBoundsException("no such class, teacher or room");
        }
        needTimetable();
        outputLength = 0;
        for (int slot = 0; slot < school.slots; slot++) {
            if (slot > 0 && school.hourOf(slot) == 0) {
                write('|');
            }
            int lesson = judge.lessonOf(present, kind, number, slot);
            write(lesson == NONE ? '.' : '0' + lesson);
        }
        return outputLength;
    }

    public int outputByte(int index) {
        return index < 0 || index >= outputLength ? NONE : output[index];
    }

    // ---- rules that cannot be kept together

    public int core() {
        return ruleSets.stubborn(NONE, 0);
    }

    public int cores() {
        ruleSets.refresh();
        return ruleSets.found;
    }

    public int coreAt(int index) throws NoSuchElementException {
        ruleSets.refresh();
        if (index < 0 || index >= ruleSets.found) {
            throw new NoSuchElementException("no such set of rules");
        }
        return ruleSets.smallest[index];
    }

    public boolean isNeeded(int rule) throws IndexOutOfBoundsException {
        needRule(rule);
        int all = school.allRules();
        return !ruleSets.keepable(all, NONE, 0) && ruleSets.keepable(all & ~(1 << rule), NONE, 0);
    }

    // ---- rooms of a slot

    public int matched(int slot) throws IndexOutOfBoundsException, IllegalStateException {
        needSlot(slot);
        needTimetable();
        return slotRooms.mostSeated(judge.lessonsIn(present, slot));
    }

    public int unfit(int slot) throws IndexOutOfBoundsException, IllegalStateException {
        needSlot(slot);
        needTimetable();
        return slotRooms.fewestUnseated(judge.lessonsIn(present, slot));
    }

    // ---- weights

    public int setWeights(int late, int rooms, int gaps) throws IllegalArgumentException {
        if (late < 0 || late > MOST_WEIGHT || rooms < 0 || rooms > MOST_WEIGHT || gaps < 0 || gaps > MOST_WEIGHT) {
            throw new IllegalArgumentException("a weight is 0 to 9");
        }
        int before = school.weights[School.LATE];
        school.weights[School.LATE] = late;
        school.weights[School.ROOMS] = rooms;
        school.weights[School.GAPS] = gaps;
        return before;
    }

    public int weight() throws IllegalStateException {
        needTimetable();
        return judge.weightOf(present);
    }

    public int best() {
        question.ask(school.allRules());
        question.costWeights();
        int cost = search.cheapest();
        take(cost);
        return cost;
    }

    public int bound() {
        values.refresh();
        return values.leastWeight();
    }

    public int improve() throws IllegalStateException {
        needTimetable();
        if (!judge.isGood(present)) {
            throw new IllegalStateException("the timetable is not good");
        }
        return rings.moveOne(present);
    }

    // ---- a teacher away, shares, exams

    public int away(int teacher, int day) throws IndexOutOfBoundsException, IllegalStateException {
        needTeacher(teacher);
        needDay(day);
        needTimetable();
        question.ask(school.allRules());
        question.barTeacher(teacher, school.dayMask(day));
        question.costChanges(present);
        int cost = search.cheapest();
        take(cost);
        return cost;
    }

    public int against(int teacher, int day) throws IndexOutOfBoundsException {
        needTeacher(teacher);
        needDay(day);
        return ruleSets.stubborn(teacher, day);
    }

    public boolean fairest() {
        question.ask(school.allRules());
        question.costShares();
        return take(search.cheapest());
    }

    public int share(int teacher) throws IndexOutOfBoundsException, IllegalStateException {
        needTeacher(teacher);
        needTimetable();
        return judge.shareOf(present, teacher);
    }

    public int examDays(int lessons) throws IllegalArgumentException {
        if (!school.areLessons(lessons)) {
            throw new IllegalArgumentException("not a set of lessons");
        }
        return exams.spread(lessons);
    }

    public int examDay(int lessons, int lesson) throws IndexOutOfBoundsException, IllegalArgumentException {
        needLesson(lesson);
        if (!school.areLessons(lessons) || (lessons >> lesson & 1) == 0) {
            throw new IllegalArgumentException("not a set of lessons with this one");
        }
        exams.spread(lessons);
        return exams.day[lesson];
    }

    // ---- checks

    public int count(int what) throws IllegalArgumentException {
        switch (what) {
            case 0:
                return school.classes;
            case 1:
                return school.teachers;
            case 2:
                return school.rooms;
            case 3:
                return school.lessons;
            case 4:
                return school.rules;
            case 5:
                return school.slots;
            default:
                throw new IllegalArgumentException("what is 0 to 5");
        }
    }

    public long checksum() {
        long sum = 0;
        for (int rule = 0; rule < school.rules; rule++) {
            sum = 31 * sum + school.ruleKind[rule];
            sum = 31 * sum + school.ruleA[rule];
            sum = 31 * sum + school.ruleB[rule];
        }
        for (int lesson = 0; lesson < school.lessons; lesson++) {
            sum = 31 * sum + (present.there ? present.valueOf(lesson) : NONE);
        }
        return sum;
    }

    public double meanHour() throws IllegalStateException {
        needTimetable();
        if (school.lessons == 0) {
            return 0.0;
        }
        int sum = 0;
        for (int lesson = 0; lesson < school.lessons; lesson++) {
            sum += school.hourOf(present.slot[lesson]);
        }
        return (double) sum / (double) school.lessons;
    }

    public float usedShare() throws IllegalStateException {
        needTimetable();
        int pairs = school.rooms * school.slots;
        if (pairs == 0) {
            return 0.0f;
        }
        int used = 0;
        for (int room = 0; room < school.rooms; room++) {
            used += Integer.bitCount(judge.coverOfRoom(present, room));
        }
        return (float) used / (float) pairs;
    }

    public int errors() {
        if (!check.enumerate()) {
            return 0;
        }
        int wrong = check.strayed ? 1 : 0;
        if (check.someGood) {
            question.ask(school.allRules());
            if (search.cheapest() == NONE || search.witness.differences(check.smallest) > 0) {
                wrong++;
            }
            question.ask(school.allRules());
            question.costWeights();
            int cost = search.seek(Search.MOST_COST, true);
            // Without a good timetable best() would make none, so that none is lighter than it.
            if (cost != NONE && check.leastWeight < cost) {
                wrong++;
            }
        } else {
            int set = ruleSets.stubborn(NONE, 0);
            if (set == NONE || check.someKeeps(set)) {
                wrong++;
            }
        }
        return wrong;
    }

    // ---- what several calls need

    private boolean take(int cost) {
        if (cost == NONE) {
            return false;
        }
        present.copyFrom(search.witness);
        return true;
    }

    private void write(int sign) {
        if (outputLength < output.length) {
            output[outputLength] = (byte) sign;
            outputLength++;
        }
    }

    private void needTimetable() {
        if (!present.there) {
            throw new IllegalStateException("there is no timetable");
        }
    }

    private void needLesson(int lesson) {
        if (lesson < 0 || lesson >= school.lessons) {
            throw new IndexOutOfBoundsException("no such lesson");
        }
    }

    private void needTeacher(int teacher) {
        if (teacher < 0 || teacher >= school.teachers) {
            throw new IndexOutOfBoundsException("no such teacher");
        }
    }

    private void needRoom(int room) {
        if (room < 0 || room >= school.rooms) {
            throw new IndexOutOfBoundsException("no such room");
        }
    }

    private void needSlot(int slot) {
        if (slot < 0 || slot >= school.slots) {
            throw new IndexOutOfBoundsException("no such slot");
        }
    }

    private void needDay(int day) {
        if (day < 0 || day >= school.days) {
            throw new IndexOutOfBoundsException("no such day");
        }
    }

    private void needRule(int rule) {
        if (rule < 0 || rule >= school.rules) {
            throw new IndexOutOfBoundsException("no such rule");
        }
    }

    /** What there is: the grid, classes, teachers, rooms, lessons, rules and weights. */
    private static final class School {
        /** Where the weights stand in their row. */
        static final int LATE = 0, ROOMS = 1, GAPS = 2;

        int days = MOST_DAYS;
        int hours = MOST_HOURS;
        int slots = MOST_SLOTS;
        int classes = 0;
        int teachers = 0;
        int rooms = 0;
        int lessons = 0;
        int rules = 0;
        /** Counts the changes of all but the weights, so that what was worked out before can be known as old. */
        int changes = 0;
        final int[] pupils = new int[MOST_CLASSES];
        final int[] home = new int[MOST_CLASSES];
        final int[] seats = new int[MOST_ROOMS];
        final int[] lessonClass = new int[MOST_LESSONS];
        final int[] lessonTeacher = new int[MOST_LESSONS];
        final int[] lessonLength = new int[MOST_LESSONS];
        final int[] ruleKind = new int[MOST_RULES];
        final int[] ruleA = new int[MOST_RULES];
        final int[] ruleB = new int[MOST_RULES];
        final int[] weights = {1, 1, 1};

        int allSlots() {
            return (1 << slots) - 1;
        }

        int allRules() {
            return (1 << rules) - 1;
        }

        boolean areLessons(int set) {
            return set >= 0 && set < 1 << lessons;
        }

        int dayOf(int slot) {
            return slot < hours ? 0 : 1;
        }

        int hourOf(int slot) {
            return slot < hours ? slot : slot - hours;
        }

        int dayMask(int day) {
            return (1 << hours) - 1 << day * hours;
        }

        int lastHours() {
            int mask = 0;
            for (int day = 0; day < days; day++) {
                mask |= 1 << day * hours + hours - 1;
            }
            return mask;
        }

        int lastSlot(int lesson, int slot) {
            return lessonLength[lesson] == 2 && slot + 1 < slots ? slot + 1 : slot;
        }

        int cover(int lesson, int slot) {
            int slotsFromHere = lessonLength[lesson] == 2 && slot + 1 < slots ? 3 : 1;
            return slotsFromHere << slot;
        }

        boolean staysInDay(int lesson, int slot) {
            return lessonLength[lesson] == 1 || hourOf(slot) + 1 < hours;
        }

        boolean hasSeats(int lesson, int room) {
            return seats[room] >= pupils[lessonClass[lesson]];
        }

        boolean shareClass(int lesson, int other) {
            return lessonClass[lesson] == lessonClass[other];
        }

        boolean shareTeacher(int lesson, int other) {
            return lessonTeacher[lesson] == lessonTeacher[other];
        }

        /** The weight of late hours and rooms of one lesson alone. */
        int weightOfValue(int lesson, int slot, int room) {
            int homeRoom = home[lessonClass[lesson]];
            boolean isAway = homeRoom != NONE && homeRoom != room;
            return weights[LATE] * hourOf(lastSlot(lesson, slot)) + (isAway ? weights[ROOMS] : 0);
        }

        boolean hasRuleWithSlot() {
            for (int rule = 0; rule < rules; rule++) {
                if (ruleKind[rule] == NOT_THEN || ruleKind[rule] == FREE) {
                    return true;
                }
            }
            return false;
        }

        boolean canBeRule(int kind, int a, int b) {
            if (kind < NOT_THEN || kind > FREE || a < 0 || b < 0) {
                return false;
            }
            if (a >= (kind == AT_MOST || kind == FREE ? teachers : lessons)) {
                return false;
            }
            switch (kind) {
                case NOT_THEN:
                case FREE:
                    return b < slots;
                case AT_MOST:
                    return b <= MOST_HOURS;
                case IN_ROOM:
                    return b < rooms;
                default:
                    return b < lessons && a != b;
            }
        }

        void removeRule(int rule) {
            for (int later = rule + 1; later < rules; later++) {
                ruleKind[later - 1] = ruleKind[later];
                ruleA[later - 1] = ruleA[later];
                ruleB[later - 1] = ruleB[later];
            }
            rules--;
        }

        /** Whether a rule about two lessons is kept if they begin in these slots. */
        boolean pairKept(int rule, int slotA, int slotB) {
            int lastA = lastSlot(ruleA[rule], slotA);
            switch (ruleKind[rule]) {
                case TOGETHER:
                    return slotA == slotB;
                case APART:
                    return dayOf(slotA) != dayOf(slotB);
                case AHEAD:
                    return lastA < slotB;
                default:
                    int lastB = lastSlot(ruleB[rule], slotB);
                    return dayOf(slotA) == dayOf(slotB) && (slotB == lastA + 1 || slotA == lastB + 1);
            }
        }
    }

    /** A value for each lesson, if it is there. */
    private static final class Timetable {
        boolean there = false;
        int lessons = 0;
        final int[] slot = new int[MOST_LESSONS];
        final int[] room = new int[MOST_LESSONS];

        void begin(int number) {
            there = true;
            lessons = number;
            Arrays.fill(slot, 0);
            Arrays.fill(room, 0);
        }

        void copyFrom(Timetable other) {
            there = other.there;
            lessons = other.lessons;
            System.arraycopy(other.slot, 0, slot, 0, MOST_LESSONS);
            System.arraycopy(other.room, 0, room, 0, MOST_LESSONS);
        }

        int valueOf(int lesson) {
            return 10 * slot[lesson] + room[lesson];
        }

        int differences(Timetable other) {
            int number = 0;
            for (int lesson = 0; lesson < lessons; lesson++) {
                if (slot[lesson] != other.slot[lesson] || room[lesson] != other.room[lesson]) {
                    number++;
                }
            }
            return number;
        }

        boolean standsIn(School school) {
            for (int lesson = 0; lesson < lessons; lesson++) {
                if (slot[lesson] >= school.slots || room[lesson] >= school.rooms) {
                    return false;
                }
            }
            return true;
        }
    }

    /** Looks at a whole timetable, which may break any rule. */
    private static final class Judge {
        final School school;

        Judge(School school) {
            this.school = school;
        }

        int faults(Timetable table) {
            int number = 0;
            for (int lesson = 0; lesson < school.lessons; lesson++) {
                number += school.staysInDay(lesson, table.slot[lesson]) ? 0 : 1;
                number += school.hasSeats(lesson, table.room[lesson]) ? 0 : 1;
                for (int other = 0; other < lesson; other++) {
                    number += pairFaults(table, lesson, other);
                }
            }
            return number;
        }

        int pairFaults(Timetable table, int lesson, int other) {
            if ((school.cover(lesson, table.slot[lesson]) & school.cover(other, table.slot[other])) == 0) {
                return 0;
            }
            return (school.shareClass(lesson, other) ? 1 : 0) + (school.shareTeacher(lesson, other) ? 1 : 0)
                + (table.room[lesson] == table.room[other] ? 1 : 0);
        }

        int toldBroken(Timetable table) {
            int set = 0;
            for (int rule = 0; rule < school.rules; rule++) {
                int a = school.ruleA[rule];
                int b = school.ruleB[rule];
                boolean kept;
                switch (school.ruleKind[rule]) {
                    case NOT_THEN:
                        kept = (school.cover(a, table.slot[a]) >> b & 1) == 0;
                        break;
                    case AT_MOST:
                        kept = longestDay(table, a) <= b;
                        break;
                    case IN_ROOM:
                        kept = table.room[a] == b;
                        break;
                    case FREE:
                        kept = (coverOfTeacher(table, a) >> b & 1) == 0;
                        break;
                    default:
                        kept = school.pairKept(rule, table.slot[a], table.slot[b]);
                        break;
                }
                set |= kept ? 0 : 1 << rule;
            }
            return set;
        }

        boolean isGood(Timetable table) {
            return faults(table) == 0 && toldBroken(table) == 0;
        }

        int coverOfTeacher(Timetable table, int teacher) {
            int cover = 0;
            for (int lesson = 0; lesson < school.lessons; lesson++) {
                if (school.lessonTeacher[lesson] == teacher) {
                    cover |= school.cover(lesson, table.slot[lesson]);
                }
            }
            return cover;
        }

        int coverOfRoom(Timetable table, int room) {
            int cover = 0;
            for (int lesson = 0; lesson < school.lessons; lesson++) {
                if (table.room[lesson] == room) {
                    cover |= school.cover(lesson, table.slot[lesson]);
                }
            }
            return cover;
        }

        int longestDay(Timetable table, int teacher) {
            int cover = coverOfTeacher(table, teacher);
            int most = 0;
            for (int day = 0; day < school.days; day++) {
                most = Math.max(most, Integer.bitCount(cover & school.dayMask(day)));
            }
            return most;
        }

        int lessonsIn(Timetable table, int slot) {
            int set = 0;
            for (int lesson = 0; lesson < school.lessons; lesson++) {
                if ((school.cover(lesson, table.slot[lesson]) >> slot & 1) != 0) {
                    set |= 1 << lesson;
                }
            }
            return set;
        }

        /** The first lesson of a class (kind 0), a teacher (1) or a room (2) that covers a slot. */
        int lessonOf(Timetable table, int kind, int number, int slot) {
            int set = lessonsIn(table, slot);
            for (int lesson = 0; lesson < school.lessons; lesson++) {
                int owner = kind == 0 ? school.lessonClass[lesson] : kind == 1 ? school.lessonTeacher[lesson] : table.room[lesson];
                if ((set >> lesson & 1) != 0 && owner == number) {
                    return lesson;
                }
            }
            return NONE;
        }

        int weightOf(Timetable table) {
            int sum = 0;
            for (int lesson = 0; lesson < school.lessons; lesson++) {
                sum += school.weightOfValue(lesson, table.slot[lesson], table.room[lesson]);
            }
            for (int teacher = 0; teacher < school.teachers; teacher++) {
                sum += school.weights[School.GAPS] * gapsIn(coverOfTeacher(table, teacher));
            }
            return sum;
        }

        /** With at most three hours a day has a gap only if the hours 0 and 2 are taken, and 1 is not. */
        int gapsIn(int cover) {
            int number = 0;
            for (int day = 0; day < school.days; day++) {
                if ((cover & school.dayMask(day)) >> day * school.hours == 5) {
                    number++;
                }
            }
            return number;
        }

        int shareOf(Timetable table, int teacher) {
            int number = 0;
            for (int lesson = 0; lesson < school.lessons; lesson++) {
                if (school.lessonTeacher[lesson] == teacher
                    && (school.cover(lesson, table.slot[lesson]) & school.lastHours()) != 0) {
                    number++;
                }
            }
            return number;
        }
    }

    /** What a search looks for: the values each lesson may have, which slots go together, and what they cost. */
    private static final class Question {
        static final int PLAIN = 0, WEIGHTS = 1, CHANGES = 2, SHARES = 3;

        final School school;
        /** For each lesson the set of slots in which it may begin. */
        final int[] starts = new int[MOST_LESSONS];
        /** For each lesson the set of rooms that it may have. */
        final int[] openRooms = new int[MOST_LESSONS];
        /** For each teacher the greatest number of slots on a day. */
        final int[] dayLimit = new int[MOST_TEACHERS];
        /** For each lesson and slot of it, and each other lesson, the slots of that one that go with it. */
        final int[] fits = new int[MOST_LESSONS * MOST_SLOTS * MOST_LESSONS];
        /** As fits, by the ground rules (c) and (d) alone. */
        final int[] groundFits = new int[MOST_LESSONS * MOST_SLOTS * MOST_LESSONS];
        final int[] cover = new int[MOST_LESSONS * MOST_SLOTS];
        final int[] valueCost = new int[MOST_LESSONS * MOST_SLOTS * MOST_ROOMS];
        /** For each lesson and slot the smallest cost with a room that the lesson may have. */
        final int[] slotCost = new int[MOST_LESSONS * MOST_SLOTS];
        /** The slots that are the last hour of a day. */
        int lastHours = 0;
        int goal = PLAIN;
        int known = NONE;

        Question(School school) {
            this.school = school;
        }

        /** Asks for a timetable that keeps the ground rules and these told rules. */
        void ask(int ruleSet) {
            if (known != school.changes) {
                known = school.changes;
                learnGround();
            }
            goal = PLAIN;
            Arrays.fill(valueCost, 0);
            Arrays.fill(slotCost, 0);
            Arrays.fill(dayLimit, MOST_HOURS);
            System.arraycopy(groundFits, 0, fits, 0, fits.length);
            for (int lesson = 0; lesson < school.lessons; lesson++) {
                openLesson(lesson);
            }
            for (int rule = 0; rule < school.rules; rule++) {
                if ((ruleSet >> rule & 1) != 0) {
                    keep(rule);
                }
            }
            for (int lesson = 0; lesson < school.lessons; lesson++) {
                for (int other = 0; other < lesson; other++) {
                    keepRooms(lesson, other);
                }
            }
            // Each round but the last takes away a slot at least.
            boolean again = true;
            for (int round = 0; round <= MOST_LESSONS * MOST_SLOTS && again; round++) {
                again = dropLonelyStarts();
            }
        }

        static int pairIndex(int lesson, int slot, int other) {
            return (lesson * MOST_SLOTS + slot) * MOST_LESSONS + other;
        }

        static int valueIndex(int lesson, int slot, int room) {
            return (lesson * MOST_SLOTS + slot) * MOST_ROOMS + room;
        }

        private void learnGround() {
            lastHours = school.lastHours();
            for (int lesson = 0; lesson < school.lessons; lesson++) {
                for (int slot = 0; slot < school.slots; slot++) {
                    cover[lesson * MOST_SLOTS + slot] = school.cover(lesson, slot);
                    for (int other = 0; other < school.lessons; other++) {
                        groundFits[pairIndex(lesson, slot, other)] = groundPartners(lesson, slot, other);
                    }
                }
            }
        }

        private int groundPartners(int lesson, int slot, int other) {
            if (!school.shareClass(lesson, other) && !school.shareTeacher(lesson, other)) {
                return school.allSlots();
            }
            int partners = 0;
            for (int begin = 0; begin < school.slots; begin++) {
                if ((school.cover(lesson, slot) & school.cover(other, begin)) == 0) {
                    partners |= 1 << begin;
                }
            }
            return partners;
        }

        private void openLesson(int lesson) {
            int slots = 0;
            for (int slot = 0; slot < school.slots; slot++) {
                if (school.staysInDay(lesson, slot)) {
                    slots |= 1 << slot;
                }
            }
            int rooms = 0;
            for (int room = 0; room < school.rooms; room++) {
                if (school.hasSeats(lesson, room)) {
                    rooms |= 1 << room;
                }
            }
            starts[lesson] = slots;
            openRooms[lesson] = rooms;
        }

        private void keep(int rule) {
            int a = school.ruleA[rule];
            int b = school.ruleB[rule];
            switch (school.ruleKind[rule]) {
                case NOT_THEN:
                    barLesson(a, 1 << b);
                    break;
                case AT_MOST:
                    dayLimit[a] = Math.min(dayLimit[a], b);
                    break;
                case IN_ROOM:
                    openRooms[a] &= 1 << b;
                    break;
                case FREE:
                    barTeacher(a, 1 << b);
                    break;
                default:
                    keepPair(rule, a, b);
                    break;
            }
        }

        private void keepPair(int rule, int a, int b) {
            for (int slotA = 0; slotA < school.slots; slotA++) {
                for (int slotB = 0; slotB < school.slots; slotB++) {
                    if (!school.pairKept(rule, slotA, slotB)) {
                        fits[pairIndex(a, slotA, b)] &= ~(1 << slotB);
                        fits[pairIndex(b, slotB, a)] &= ~(1 << slotA);
                    }
                }
            }
        }

        /** Two lessons that can have one room alone, and the same one, never cover a common slot. */
        private void keepRooms(int lesson, int other) {
            if (openRooms[lesson] != openRooms[other] || Integer.bitCount(openRooms[lesson]) != 1) {
                return;
            }
            for (int slot = 0; slot < school.slots; slot++) {
                for (int begin = 0; begin < school.slots; begin++) {
                    if ((cover[lesson * MOST_SLOTS + slot] & cover[other * MOST_SLOTS + begin]) != 0) {
                        fits[pairIndex(lesson, slot, other)] &= ~(1 << begin);
                        fits[pairIndex(other, begin, lesson)] &= ~(1 << slot);
                    }
                }
            }
        }

        /** Takes away the slots that go with no slot of some other lesson: most hopeless searches end by this. */
        private boolean dropLonelyStarts() {
            boolean dropped = false;
            for (int lesson = 0; lesson < school.lessons; lesson++) {
                for (int slot = 0; slot < school.slots; slot++) {
                    if ((starts[lesson] >> slot & 1) != 0 && isLonelyStart(lesson, slot)) {
                        starts[lesson] &= ~(1 << slot);
                        dropped = true;
                    }
                }
            }
            return dropped;
        }

        private boolean isLonelyStart(int lesson, int slot) {
            for (int other = 0; other < school.lessons; other++) {
                if (other != lesson && (fits[pairIndex(lesson, slot, other)] & starts[other]) == 0) {
                    return true;
                }
            }
            return false;
        }

        private void barLesson(int lesson, int slots) {
            for (int slot = 0; slot < school.slots; slot++) {
                if ((cover[lesson * MOST_SLOTS + slot] & slots) != 0) {
                    starts[lesson] &= ~(1 << slot);
                }
            }
        }

        /** The lessons of a teacher shall cover none of these slots. */
        void barTeacher(int teacher, int slots) {
            for (int lesson = 0; lesson < school.lessons; lesson++) {
                if (school.lessonTeacher[lesson] == teacher) {
                    barLesson(lesson, slots);
                }
            }
        }

        void allow(int lesson, int slots, int rooms) {
            starts[lesson] = slots;
            openRooms[lesson] = rooms;
            price(lesson);
        }

        void costWeights() {
            goal = WEIGHTS;
            for (int lesson = 0; lesson < school.lessons; lesson++) {
                for (int slot = 0; slot < school.slots; slot++) {
                    for (int room = 0; room < school.rooms; room++) {
                        valueCost[valueIndex(lesson, slot, room)] = school.weightOfValue(lesson, slot, room);
                    }
                }
                price(lesson);
            }
        }

        void costChanges(Timetable present) {
            goal = CHANGES;
            for (int lesson = 0; lesson < school.lessons; lesson++) {
                for (int slot = 0; slot < school.slots; slot++) {
                    for (int room = 0; room < school.rooms; room++) {
                        boolean same = slot == present.slot[lesson] && room == present.room[lesson];
                        valueCost[valueIndex(lesson, slot, room)] = same ? 0 : 1;
                    }
                }
                price(lesson);
            }
        }

        /** The cost of a timetable is then a number that grows as it is less fair (Search.lowestShares). */
        void costShares() {
            goal = SHARES;
        }

        private void price(int lesson) {
            for (int slot = 0; slot < school.slots; slot++) {
                int least = Search.MOST_COST;
                for (int room = 0; room < school.rooms; room++) {
                    if ((openRooms[lesson] >> room & 1) != 0) {
                        least = Math.min(least, valueCost[valueIndex(lesson, slot, room)]);
                    }
                }
                // A lesson without rooms ends the search before it looks at a cost.
                slotCost[lesson * MOST_SLOTS + slot] = least == Search.MOST_COST ? 0 : least;
            }
        }
    }

    /**
     * Looks for timetables that answer the question. It goes through slots alone, the lesson with the fewest slots
     * first, and asks behind each step whether rooms can still be given to the lessons that have slots.
     */
    private static final class Search {
        /** More than the cost of any timetable. */
        static final int MOST_COST = 100000;
        /** With at most 4 teachers, a sum of these grows with the shares in descending order. */
        private static final int[] POWERS = {1, 5, 25, 125, 625, 3125, 15625};

        final School school;
        final Question question;
        /** The timetable that was found last. */
        final Timetable witness = new Timetable();
        /** For each depth, and each lesson that has no slot there, the slots that are still open. */
        final int[] domain = new int[(MOST_LESSONS + 1) * MOST_LESSONS];
        final int[] order = new int[MOST_LESSONS];
        final int[] slotOf = new int[MOST_LESSONS];
        final int[] roomOf = new int[MOST_LESSONS];
        /** For each teacher the slots that the lessons with a slot cover. */
        final int[] used = new int[MOST_TEACHERS];
        int limit = 0;
        int floor = 0;
        int witnessCost = NONE;
        boolean wantsLeast = false;

        Search(School school, Question question) {
            this.school = school;
            this.question = question;
        }

        /**
         * The cost of a timetable that costs at most this, or of one that costs the least; NONE without one. The
         * witness is this timetable; without one it stays.
         */
        int seek(int most, boolean least) {
            wantsLeast = least;
            limit = most;
            witnessCost = NONE;
            Arrays.fill(used, 0);
            for (int lesson = 0; lesson < school.lessons; lesson++) {
                domain[lesson] = withinDayLimit(lesson, question.starts[lesson]);
                if (domain[lesson] == 0 || question.openRooms[lesson] == 0) {
                    return NONE;
                }
            }
            floor = lowest(0, 0);
            explore(0, 0);
            return witnessCost;
        }

        /** The smallest cost; the witness is the smallest timetable that has it. */
        int cheapest() {
            int cost = seek(MOST_COST, true);
            if (cost != NONE) {
                lessen(cost);
            }
            return cost;
        }

        /** Makes the witness the smallest good timetable that is greater than this one, if there is one. */
        boolean behind(Timetable table) {
            for (int lesson = school.lessons - 1; lesson >= 0; lesson--) {
                int slot = table.slot[lesson];
                int greaterRooms = -1 << table.room[lesson] + 1;
                int greaterSlots = -1 << slot + 1;
                if (existsBehind(table, lesson, 1 << slot, greaterRooms) || existsBehind(table, lesson, greaterSlots, -1)) {
                    lessen(0);
                    return true;
                }
            }
            return false;
        }

        /** As the table ahead of the lesson, which has some of these slots and rooms. */
        private boolean existsBehind(Timetable table, int lesson, int slots, int rooms) {
            question.ask(school.allRules());
            for (int before = 0; before < lesson; before++) {
                restrict(before, 1 << table.slot[before], 1 << table.room[before]);
            }
            restrict(lesson, slots, rooms);
            return seek(0, false) != NONE;
        }

        private void restrict(int lesson, int slots, int rooms) {
            question.allow(lesson, question.starts[lesson] & slots, question.openRooms[lesson] & rooms);
        }

        /** Makes the witness, which costs at most this, the smallest timetable that does, lesson by lesson. */
        private void lessen(int most) {
            for (int lesson = 0; lesson < school.lessons; lesson++) {
                int slots = question.starts[lesson];
                int rooms = question.openRooms[lesson];
                boolean done = false;
                for (int slot = 0; slot < school.slots && !done; slot++) {
                    if ((slots >> slot & 1) != 0) {
                        question.allow(lesson, 1 << slot, rooms);
                        done = slot == witness.slot[lesson] || seek(most, false) != NONE;
                    }
                }
                slots = question.starts[lesson];
                done = false;
                for (int room = 0; room < school.rooms && !done; room++) {
                    if ((rooms >> room & 1) != 0) {
                        question.allow(lesson, slots, 1 << room);
                        done = room == witness.room[lesson] || seek(most, false) != NONE;
                    }
                }
            }
        }

        /** Gives the lessons that have no slot yet one; answers whether the search has what it wants. */
        private boolean explore(int depth, int placed) {
            int low = lowest(depth, placed);
            if (low > limit || !seat(0, depth, limit - low)) {
                return false;
            }
            if (depth >= school.lessons) {
                return record(low);
            }
            int lesson = tightest(depth, placed);
            int nowPlaced = placed | 1 << lesson;
            int open = domain[depth * MOST_LESSONS + lesson];
            int teacher = school.lessonTeacher[lesson];
            int before = used[teacher];
            boolean stops = false;
            order[depth] = lesson;
            for (int slot = 0; slot < school.slots && !stops; slot++) {
                if ((open >> slot & 1) != 0) {
                    slotOf[lesson] = slot;
                    used[teacher] = before | question.cover[lesson * MOST_SLOTS + slot];
                    stops = narrow(depth, nowPlaced, lesson, slot) && explore(depth + 1, nowPlaced);
                }
            }
            used[teacher] = before;
            return stops;
        }

        /** Takes from the other lessons the slots that do not go with this one; false if one has none then. */
        private boolean narrow(int depth, int placed, int lesson, int slot) {
            int from = depth * MOST_LESSONS;
            int to = from + MOST_LESSONS;
            for (int other = 0; other < school.lessons; other++) {
                if ((placed >> other & 1) == 0) {
                    int open = domain[from + other] & question.fits[Question.pairIndex(lesson, slot, other)];
                    if (school.shareTeacher(lesson, other)) {
                        open = withinDayLimit(other, open);
                    }
                    if (open == 0) {
                        return false;
                    }
                    domain[to + other] = open;
                }
            }
            return true;
        }

        private int withinDayLimit(int lesson, int slots) {
            int teacher = school.lessonTeacher[lesson];
            int most = question.dayLimit[teacher];
            if (most >= school.hours) {
                return slots;
            }
            int within = slots;
            for (int slot = 0; slot < school.slots; slot++) {
                int cover = used[teacher] | question.cover[lesson * MOST_SLOTS + slot];
                if (Integer.bitCount(cover & school.dayMask(school.dayOf(slot))) > most) {
                    within &= ~(1 << slot);
                }
            }
            return within;
        }

        private int tightest(int depth, int placed) {
            int lesson = 0;
            int fewest = MOST_SLOTS + 1;
            for (int other = 0; other < school.lessons; other++) {
                int number = Integer.bitCount(domain[depth * MOST_LESSONS + other]);
                if ((placed >> other & 1) == 0 && number < fewest) {
                    lesson = other;
                    fewest = number;
                }
            }
            return lesson;
        }

        /** Gives rooms to the lessons that have slots, from the k-th on, for at most so much above their slots' cost. */
        private boolean seat(int k, int depth, int spare) {
            if (k >= depth || k >= MOST_LESSONS) {
                return true;
            }
            int lesson = order[k];
            int slot = slotOf[lesson];
            int open = question.openRooms[lesson] & ~takenRooms(k);
            for (int room = 0; room < school.rooms; room++) {
                int more = question.valueCost[Question.valueIndex(lesson, slot, room)] - question.slotCost[lesson * MOST_SLOTS + slot];
                if ((open >> room & 1) != 0 && more <= spare) {
                    roomOf[lesson] = room;
                    if (seat(k + 1, depth, spare - more)) {
                        return true;
                    }
                }
            }
            return false;
        }

        /** The rooms of the lessons ahead of the k-th that cover a slot with it. */
        private int takenRooms(int k) {
            int lesson = order[k];
            int cover = question.cover[lesson * MOST_SLOTS + slotOf[lesson]];
            int taken = 0;
            for (int before = 0; before < k; before++) {
                int other = order[before];
                if ((cover & question.cover[other * MOST_SLOTS + slotOf[other]]) != 0) {
                    taken |= 1 << roomOf[other];
                }
            }
            return taken;
        }

        private boolean record(int low) {
            boolean done = false;
            for (int spare = 0; spare <= limit - low && !done; spare++) {
                if (seat(0, school.lessons, spare)) {
                    done = true;
                    witnessCost = low + spare;
                }
            }
            witness.there = true;
            witness.lessons = school.lessons;
            System.arraycopy(slotOf, 0, witness.slot, 0, MOST_LESSONS);
            System.arraycopy(roomOf, 0, witness.room, 0, MOST_LESSONS);
            if (!wantsLeast) {
                return true;
            }
            limit = witnessCost - 1;
            return limit < floor;
        }

        /** No timetable that goes on from here costs less; if all lessons have slots, it is exact but for the rooms. */
        private int lowest(int depth, int placed) {
            if (question.goal == Question.PLAIN) {
                return 0;
            }
            if (question.goal == Question.SHARES) {
                return lowestShares(depth, placed);
            }
            int sum = question.goal == Question.WEIGHTS ? school.weights[School.GAPS] * sureGaps(depth, placed) : 0;
            for (int lesson = 0; lesson < school.lessons; lesson++) {
                if ((placed >> lesson & 1) != 0) {
                    sum += question.slotCost[lesson * MOST_SLOTS + slotOf[lesson]];
                } else {
                    sum += cheapestSlot(lesson, domain[depth * MOST_LESSONS + lesson]);
                }
            }
            return sum;
        }

        private int cheapestSlot(int lesson, int open) {
            int least = MOST_COST;
            for (int slot = 0; slot < school.slots; slot++) {
                if ((open >> slot & 1) != 0) {
                    least = Math.min(least, question.slotCost[lesson * MOST_SLOTS + slot]);
                }
            }
            return least;
        }

        /** The gaps that no lesson without a slot can fill any more. */
        private int sureGaps(int depth, int placed) {
            int number = 0;
            for (int teacher = 0; teacher < school.teachers; teacher++) {
                for (int day = 0; day < school.days; day++) {
                    int begin = day * school.hours;
                    if ((used[teacher] & school.dayMask(day)) >> begin == 5 && !canFill(depth, placed, teacher, begin + 1)) {
                        number++;
                    }
                }
            }
            return number;
        }

        private boolean canFill(int depth, int placed, int teacher, int slot) {
            for (int lesson = 0; lesson < school.lessons; lesson++) {
                if ((placed >> lesson & 1) == 0 && school.lessonTeacher[lesson] == teacher
                    && (domain[depth * MOST_LESSONS + lesson] >> slot & 1) != 0) {
                    return true;
                }
            }
            return false;
        }

        private int lowestShares(int depth, int placed) {
            int sum = 0;
            for (int teacher = 0; teacher < school.teachers; teacher++) {
                int number = 0;
                for (int lesson = 0; lesson < school.lessons; lesson++) {
                    if (school.lessonTeacher[lesson] == teacher && mustEndLast(depth, placed, lesson)) {
                        number++;
                    }
                }
                sum += POWERS[Math.min(number, MOST_LESSONS)];
            }
            return sum;
        }

        /** Whether a lesson covers the last hour of a day with its slot, or with each one that is open for it. */
        private boolean mustEndLast(int depth, int placed, int lesson) {
            int open = (placed >> lesson & 1) != 0 ? 1 << slotOf[lesson] : domain[depth * MOST_LESSONS + lesson];
            for (int slot = 0; slot < school.slots; slot++) {
                if ((open >> slot & 1) != 0 && (question.cover[lesson * MOST_SLOTS + slot] & question.lastHours) == 0) {
                    return false;
                }
            }
            return true;
        }
    }

    /** The values that are left of each lesson (section 3 of the document). */
    private static final class Values {
        final School school;
        final Question question;
        /** For each lesson the set of values left; the value with a slot and a room is the bit 3 * slot + room. */
        final int[] open = new int[MOST_LESSONS];
        /** For each lesson the slots that the values left of it cover. */
        final int[] covered = new int[MOST_LESSONS];
        int known = NONE;

        Values(School school, Question question) {
            this.school = school;
            this.question = question;
        }

        void refresh() {
            if (known == school.changes) {
                return;
            }
            known = school.changes;
            question.ask(school.allRules());
            for (int lesson = 0; lesson < school.lessons; lesson++) {
                open[lesson] = begin(lesson);
            }
            // Each round but the last takes away a value at least.
            boolean again = true;
            for (int round = 0; round <= MOST_LESSONS * MOST_SLOTS * MOST_ROOMS && again; round++) {
                boolean dropped = dropLonely();
                again = dropCrowded() || dropped;
            }
        }

        int told(int lesson, int index) {
            int before = 0;
            for (int slot = 0; slot < school.slots; slot++) {
                for (int room = 0; room < school.rooms; room++) {
                    if (isOpen(lesson, slot, room)) {
                        if (before == index) {
                            return 10 * slot + room;
                        }
                        before++;
                    }
                }
            }
            return NONE;
        }

        boolean isOpen(int lesson, int slot, int room) {
            return (open[lesson] >> slot * MOST_ROOMS + room & 1) != 0;
        }

        int leastWeight() {
            int sum = 0;
            for (int lesson = 0; lesson < school.lessons; lesson++) {
                if (open[lesson] == 0) {
                    return NONE;
                }
                sum += leastOf(lesson);
            }
            return sum;
        }

        private int leastOf(int lesson) {
            int least = Search.MOST_COST;
            for (int slot = 0; slot < school.slots; slot++) {
                for (int room = 0; room < school.rooms; room++) {
                    if (isOpen(lesson, slot, room)) {
                        least = Math.min(least, school.weightOfValue(lesson, slot, room));
                    }
                }
            }
            return least;
        }

        private int begin(int lesson) {
            int set = 0;
            for (int slot = 0; slot < school.slots; slot++) {
                if ((question.starts[lesson] >> slot & 1) != 0) {
                    set |= question.openRooms[lesson] << slot * MOST_ROOMS;
                }
            }
            return set;
        }

        /** Takes away the values that go with no value left of some other lesson. */
        private boolean dropLonely() {
            boolean dropped = false;
            for (int lesson = 0; lesson < school.lessons; lesson++) {
                for (int slot = 0; slot < school.slots; slot++) {
                    for (int room = 0; room < school.rooms; room++) {
                        if (isOpen(lesson, slot, room) && isLonely(lesson, slot, room)) {
                            open[lesson] &= ~(1 << slot * MOST_ROOMS + room);
                            dropped = true;
                        }
                    }
                }
            }
            return dropped;
        }

        private boolean isLonely(int lesson, int slot, int room) {
            for (int other = 0; other < school.lessons; other++) {
                if (other != lesson && !hasPartner(lesson, slot, room, other)) {
                    return true;
                }
            }
            return false;
        }

        private boolean hasPartner(int lesson, int slot, int room, int other) {
            int partners = question.fits[Question.pairIndex(lesson, slot, other)];
            int cover = question.cover[lesson * MOST_SLOTS + slot];
            for (int begin = 0; begin < school.slots; begin++) {
                if ((partners >> begin & 1) != 0) {
                    int rooms = open[other] >> begin * MOST_ROOMS & 7;
                    if ((cover & question.cover[other * MOST_SLOTS + begin]) != 0) {
                        rooms &= ~(1 << room);
                    }
                    if (rooms != 0) {
                        return true;
                    }
                }
            }
            return false;
        }

        private boolean dropCrowded() {
            boolean dropped = false;
            for (int group = 0; group < MOST_CLASSES; group++) {
                dropped = crowdGroup(lessonsOf(school.lessonClass, group)) || dropped;
            }
            for (int group = 0; group < MOST_TEACHERS; group++) {
                dropped = crowdGroup(lessonsOf(school.lessonTeacher, group)) || dropped;
            }
            return dropped;
        }

        private int lessonsOf(int[] owners, int owner) {
            int set = 0;
            for (int lesson = 0; lesson < school.lessons; lesson++) {
                if (owners[lesson] == owner) {
                    set |= 1 << lesson;
                }
            }
            return set;
        }

        /** Looks at all sets of lessons of one class, or of one teacher. */
        private boolean crowdGroup(int group) {
            for (int lesson = 0; lesson < school.lessons; lesson++) {
                covered[lesson] = coverLeft(lesson);
            }
            boolean dropped = false;
            for (int set = 1; set <= group; set++) {
                if ((set & ~group) == 0) {
                    int cover = coverOfSet(set);
                    int spare = Integer.bitCount(cover) - lengthOfSet(set);
                    if (spare < 0) {
                        dropped = dropAll() || dropped;
                    } else if (spare == 0) {
                        dropped = dropCovering(group & ~set, cover) || dropped;
                    }
                }
            }
            return dropped;
        }

        private int coverLeft(int lesson) {
            int cover = 0;
            for (int slot = 0; slot < school.slots; slot++) {
                if ((open[lesson] >> slot * MOST_ROOMS & 7) != 0) {
                    cover |= question.cover[lesson * MOST_SLOTS + slot];
                }
            }
            return cover;
        }

        private int coverOfSet(int set) {
            int cover = 0;
            for (int lesson = 0; lesson < school.lessons; lesson++) {
                if ((set >> lesson & 1) != 0) {
                    cover |= covered[lesson];
                }
            }
            return cover;
        }

        private int lengthOfSet(int set) {
            int sum = 0;
            for (int lesson = 0; lesson < school.lessons; lesson++) {
                if ((set >> lesson & 1) != 0) {
                    sum += school.lessonLength[lesson];
                }
            }
            return sum;
        }

        private boolean dropAll() {
            boolean dropped = false;
            for (int lesson = 0; lesson < school.lessons; lesson++) {
                dropped = dropped || open[lesson] != 0;
                open[lesson] = 0;
                covered[lesson] = 0;
            }
            return dropped;
        }

        private boolean dropCovering(int lessons, int cover) {
            boolean dropped = false;
            for (int lesson = 0; lesson < school.lessons; lesson++) {
                for (int slot = 0; slot < school.slots; slot++) {
                    int here = 7 << slot * MOST_ROOMS;
                    if ((lessons >> lesson & 1) != 0 && (open[lesson] & here) != 0
                        && (question.cover[lesson * MOST_SLOTS + slot] & cover) != 0) {
                        open[lesson] &= ~here;
                        covered[lesson] = coverLeft(lesson);
                        dropped = true;
                    }
                }
            }
            return dropped;
        }
    }

    /** Sets of told rules that can, or cannot, be kept together. */
    private static final class RuleSets {
        /** As many sets as 10 rules have of one size. */
        private static final int MOST_SETS = 252;

        final School school;
        final Judge judge;
        final Question question;
        final Search search;
        /** The sets with the smallest number of rules that cannot be kept together, by their numbers. */
        final int[] smallest = new int[MOST_SETS];
        int found = 0;
        /** Sets that some timetable was seen to keep; a set inside one of them needs no search. */
        final int[] seenKept = new int[64];
        int seen = 0;
        int known = NONE;

        RuleSets(School school, Judge judge, Question question, Search search) {
            this.school = school;
            this.judge = judge;
            this.question = question;
            this.search = search;
        }

        /** Whether the rules of the set can be kept, while a teacher (or NONE) is away on a day. */
        boolean keepable(int set, int teacher, int day) {
            question.ask(set);
            if (teacher != NONE) {
                question.barTeacher(teacher, school.dayMask(day));
            }
            return search.seek(0, false) != NONE;
        }

        /** A set that cannot be kept, and no part of it, while a teacher (or NONE) is away; NONE without one. */
        int stubborn(int teacher, int day) {
            int set = school.allRules();
            if (keepable(set, teacher, day)) {
                return NONE;
            }
            for (int rule = school.rules - 1; rule >= 0; rule--) {
                int without = set & ~(1 << rule);
                if (!keepable(without, teacher, day)) {
                    set = without;
                }
            }
            return set;
        }

        void refresh() {
            if (known == school.changes) {
                return;
            }
            known = school.changes;
            found = 0;
            seen = 0;
            int all = school.allRules();
            if (isKept(all)) {
                return;
            }
            for (int size = 0; size <= school.rules && found == 0; size++) {
                for (int set = 0; set <= all; set++) {
                    if (Integer.bitCount(set) == size && found < MOST_SETS && !isKept(set)) {
                        smallest[found] = set;
                        found++;
                    }
                }
            }
        }

        private boolean isKept(int set) {
            for (int k = 0; k < seen; k++) {
                if ((set & ~seenKept[k]) == 0) {
                    return true;
                }
            }
            question.ask(set);
            if (search.seek(0, false) == NONE) {
                return false;
            }
            if (seen < seenKept.length) {
                seenKept[seen] = school.allRules() & ~judge.toldBroken(search.witness);
                seen++;
            }
            return true;
        }
    }

    /** The lessons of one slot and the rooms that have seats enough for them. */
    private static final class SlotRooms {
        final School school;

        SlotRooms(School school) {
            this.school = school;
        }

        /** As many lessons stay without a room as a part of them is, at the most, greater than its rooms. */
        int mostSeated(int lessons) {
            int without = 0;
            for (int part = 1; part <= lessons; part++) {
                if ((part & ~lessons) == 0) {
                    without = Math.max(without, Integer.bitCount(part) - roomsFor(part));
                }
            }
            return Integer.bitCount(lessons) - without;
        }

        int fewestUnseated(int lessons) {
            int fewest = 0;
            for (int part = 1; part <= lessons; part++) {
                if ((part & ~lessons) == 0 && Integer.bitCount(part) > roomsFor(part)
                    && (fewest == 0 || Integer.bitCount(part) < Integer.bitCount(fewest))) {
                    fewest = part;
                }
            }
            return fewest;
        }

        private int roomsFor(int part) {
            int number = 0;
            for (int room = 0; room < school.rooms; room++) {
                number += fitsSome(part, room) ? 1 : 0;
            }
            return number;
        }

        private boolean fitsSome(int part, int room) {
            for (int lesson = 0; lesson < school.lessons; lesson++) {
                if ((part >> lesson & 1) != 0 && school.hasSeats(lesson, room)) {
                    return true;
                }
            }
            return false;
        }
    }

    /** Rings of swaps (section 5 of the document). */
    private static final class Rings {
        private static final int LONGEST = 4;

        final School school;
        final Judge judge;
        final Timetable trial = new Timetable();
        final Timetable lightest = new Timetable();
        final int[] ring = new int[LONGEST];
        int least = 0;

        Rings(School school, Judge judge) {
            this.school = school;
            this.judge = judge;
        }

        /** Moves the ring that makes a good timetable the lightest; answers by how much. */
        int moveOne(Timetable table) {
            int before = judge.weightOf(table);
            least = before;
            lightest.copyFrom(table);
            for (int size = 2; size <= LONGEST; size++) {
                for (int lesson = 0; lesson < school.lessons; lesson++) {
                    ring[0] = lesson;
                    extend(table, 1, size);
                }
            }
            table.copyFrom(lightest);
            return before - least;
        }

        private void extend(Timetable table, int depth, int size) {
            if (depth >= size || depth >= LONGEST) {
                weigh(table, depth);
                return;
            }
            for (int lesson = ring[0] + 1; lesson < school.lessons; lesson++) {
                if (school.lessonLength[lesson] == school.lessonLength[ring[0]] && !isIn(lesson, depth)) {
                    ring[depth] = lesson;
                    extend(table, depth + 1, size);
                }
            }
        }

        private boolean isIn(int lesson, int depth) {
            for (int k = 0; k < depth; k++) {
                if (ring[k] == lesson) {
                    return true;
                }
            }
            return false;
        }

        private void weigh(Timetable table, int size) {
            trial.copyFrom(table);
            for (int k = 0; k < size; k++) {
                int giver = ring[k + 1 < size ? k + 1 : 0];
                trial.slot[ring[k]] = table.slot[giver];
                trial.room[ring[k]] = table.room[giver];
            }
            int weight = judge.weightOf(trial);
            if (weight < least && judge.faults(trial) == 0 && judge.toldBroken(trial) == 0) {
                least = weight;
                lightest.copyFrom(trial);
            }
        }
    }

    /** Exams on as few days as possible (section 6 of the document). */
    private static final class Exams {
        final School school;
        final int[] day = new int[MOST_LESSONS];

        Exams(School school) {
            this.school = school;
        }

        /** Puts the exams of these lessons on days; answers how many days they need. */
        int spread(int lessons) {
            for (int days = 0; days < MOST_LESSONS; days++) {
                if (fill(lessons, 0, days)) {
                    return days;
                }
            }
            fill(lessons, 0, MOST_LESSONS);
            return MOST_LESSONS;
        }

        private boolean fill(int lessons, int lesson, int days) {
            if (lesson >= school.lessons) {
                return true;
            }
            if ((lessons >> lesson & 1) == 0) {
                return fill(lessons, lesson + 1, days);
            }
            for (int choice = 0; choice < days; choice++) {
                if (isFree(lessons, lesson, choice)) {
                    day[lesson] = choice;
                    if (fill(lessons, lesson + 1, days)) {
                        return true;
                    }
                }
            }
            return false;
        }

        private boolean isFree(int lessons, int lesson, int choice) {
            for (int other = 0; other < lesson; other++) {
                if ((lessons >> other & 1) != 0 && day[other] == choice
                    && (school.shareClass(lesson, other) || school.shareTeacher(lesson, other))) {
                    return false;
                }
            }
            return true;
        }
    }

    /** Goes through all timetables of values that keep the ground rules (a) and (b), in their order. */
    private static final class Check {
        private static final int MOST_TIMETABLES = 3000;

        final School school;
        final Judge judge;
        final Values values;
        final Timetable trial = new Timetable();
        /** The first good timetable that was met. */
        final Timetable smallest = new Timetable();
        boolean someGood = false;
        /** Whether a value of a good timetable was narrowed away. */
        boolean strayed = false;
        int leastWeight = 0;
        int timetables = 0;
        /** The rules of which it is asked whether some timetable keeps them. */
        int wanted = 0;
        boolean wantedKept = false;

        Check(School school, Judge judge, Values values) {
            this.school = school;
            this.judge = judge;
            this.values = values;
        }

        /** Looks for good timetables; false if there are too many timetables to go through. */
        boolean enumerate() {
            timetables = countTimetables();
            if (timetables > MOST_TIMETABLES) {
                return false;
            }
            someGood = false;
            strayed = false;
            leastWeight = 0;
            values.refresh();
            trial.begin(school.lessons);
            walk(0);
            return true;
        }

        /** Whether one of the timetables keeps the ground rules and these. */
        boolean someKeeps(int set) {
            wanted = set;
            wantedKept = false;
            trial.begin(school.lessons);
            walk(0);
            return wantedKept;
        }

        private int countTimetables() {
            int product = 1;
            for (int lesson = 0; lesson < school.lessons; lesson++) {
                int number = 0;
                for (int slot = 0; slot < school.slots; slot++) {
                    for (int room = 0; room < school.rooms; room++) {
                        number += stands(lesson, slot, room) ? 1 : 0;
                    }
                }
                product *= number;
            }
            return product;
        }

        private boolean stands(int lesson, int slot, int room) {
            return school.staysInDay(lesson, slot) && school.hasSeats(lesson, room);
        }

        private void walk(int lesson) {
            if (timetables == 0) {
                // Some lesson has no value at all: the others are not gone through in vain.
                return;
            }
            if (lesson >= school.lessons) {
                look();
                return;
            }
            for (int slot = 0; slot < school.slots; slot++) {
                for (int room = 0; room < school.rooms; room++) {
                    trial.slot[lesson] = slot;
                    trial.room[lesson] = room;
                    if (stands(lesson, slot, room) && clashesWithNone(lesson)) {
                        walk(lesson + 1);
                    }
                }
            }
        }

        private boolean clashesWithNone(int lesson) {
            for (int other = 0; other < lesson; other++) {
                if (judge.pairFaults(trial, lesson, other) > 0) {
                    return false;
                }
            }
            return true;
        }

        private void look() {
            int broken = judge.toldBroken(trial);
            wantedKept = wantedKept || (broken & wanted) == 0;
            if (broken != 0) {
                return;
            }
            int weight = judge.weightOf(trial);
            if (!someGood) {
                someGood = true;
                smallest.copyFrom(trial);
                leastWeight = weight;
            }
            leastWeight = Math.min(leastWeight, weight);
            for (int lesson = 0; lesson < school.lessons; lesson++) {
                strayed = strayed || !values.isOpen(lesson, trial.slot[lesson], trial.room[lesson]);
            }
        }
    }
}
