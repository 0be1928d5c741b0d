import java.util.Random;

/** Plays random runs of calls on the class and on the slow model, and compares every answer and every exception. */
public final class RandomRunsTest {
    private static final String[] NAMES = {"setGrid", "addClass", "addTeacher", "addRoom", "addLesson", "addRule", "dropRule",
        "left", "leftAt", "first", "next", "place", "at", "broken", "groundFaults", "image", "restore", "print", "outputByte",
        "core", "cores", "coreAt", "isNeeded", "matched", "unfit", "setWeights", "weight", "best", "bound", "improve", "away",
        "against", "fairest", "share", "examDays", "examDay", "count", "checksum", "meanHour", "usedShare", "errors"};
    /** How often each call is drawn, among 1000 or so. */
    private static final int[] OFTEN = {4, 8, 6, 6, 10, 40, 25, 20, 30, 30, 60, 50, 20, 25, 25, 12, 12, 15, 15, 25, 20, 20, 20,
        20, 20, 15, 25, 30, 25, 30, 40, 25, 25, 20, 15, 20, 10, 20, 10, 10, 8};

    private int wrong = 0;
    private int played = 0;
    private int skipped = 0;
    private final int[] answered = new int[NAMES.length];
    private final int[] threw = new int[NAMES.length];

    public static void main(String[] args) {
        int runs = args.length > 0 ? Integer.parseInt(args[0]) : 400;
        int most = args.length > 1 ? Integer.parseInt(args[1]) : 3000;
        long seed = args.length > 2 ? Long.parseLong(args[2]) : 1;
        RandomRunsTest test = new RandomRunsTest();
        for (int run = 0; run < runs && test.wrong < 5; run++) {
            test.play(seed * 1000000 + run, most);
        }
        test.tell();
        if (test.wrong > 0) {
            System.exit(1);
        }
    }

    private void tell() {
        for (int op = 0; op < NAMES.length; op++) {
            if (answered[op] == 0) {
                wrong++;
                System.out.println(NAMES[op] + " never answered");
            }
            System.out.print(NAMES[op] + " " + answered[op] + "/" + threw[op] + "; ");
        }
        System.out.println();
        System.out.println(played + " calls compared, " + skipped + " left out, " + wrong + " wrong");
    }

    private void play(long seed, int most) {
        Random random = new Random(seed);
        Roomandhour x = new Roomandhour();
        Model m = new Model();
        m.most = most;
        StringBuilder log = new StringBuilder();
        build(random, x, m, log);
        int calls = 50 + random.nextInt(50);
        for (int k = 0; k < calls; k++) {
            int op = draw(random);
            int[] a = arguments(random, op, m);
            if (!step(x, m, op, a, log) || !sameState(x, m, log)) {
                System.out.println("seed " + seed + ":" + log);
                return;
            }
        }
    }

    /** Fills a school first, so that most calls have something to work on. */
    private void build(Random random, Roomandhour x, Model m, StringBuilder log) {
        if (random.nextInt(3) == 0) {
            step(x, m, 0, new int[] {1 + random.nextInt(2), 1 + random.nextInt(3)}, log);
        }
        int flavour = random.nextInt(8);
        int rooms = flavour < 2 ? 1 : 1 + random.nextInt(3);
        int classes = flavour == 0 ? 1 + random.nextInt(2) : 1 + random.nextInt(4);
        int teachers = flavour == 1 ? 1 + random.nextInt(2) : 1 + random.nextInt(4);
        int lessons = flavour < 2 ? 4 + random.nextInt(3) : random.nextInt(7);
        int longOf = flavour == 0 ? 2 : 3;
        for (int k = 0; k < rooms; k++) {
            step(x, m, 3, new int[] {10 * (1 + random.nextInt(3))}, log);
        }
        for (int k = 0; k < classes; k++) {
            int pupils = random.nextInt(12) == 0 ? 35 : 10 * (1 + random.nextInt(random.nextBoolean() ? 3 : 2)) - random.nextInt(2);
            step(x, m, 1, new int[] {pupils, random.nextInt(rooms + 1) - 1}, log);
        }
        for (int k = 0; k < teachers; k++) {
            step(x, m, 2, new int[] {}, log);
        }
        for (int k = 0; k < lessons; k++) {
            step(x, m, 4, new int[] {random.nextInt(classes), random.nextInt(teachers), random.nextInt(longOf) == 0 ? 2 : 1}, log);
        }
        int rules = random.nextInt(random.nextBoolean() ? 5 : 11);
        for (int k = 0; k < rules; k++) {
            step(x, m, 5, flavour < 2 && random.nextBoolean() ? oneSlotBarred(random, m) : arguments(random, 5, m), log);
        }
        if (flavour == 1) {
            step(x, m, 25, new int[] {random.nextInt(3), random.nextInt(3), 1 + random.nextInt(9)}, log);
        } else if (random.nextBoolean()) {
            step(x, m, 25, new int[] {random.nextInt(10), random.nextInt(10), random.nextInt(10)}, log);
        }
    }

    private static int[] oneSlotBarred(Random random, Model m) {
        return new int[] {Roomandhour.NOT_THEN, random.nextInt(m.lessons.size()), random.nextInt(m.slots())};
    }

    private static int draw(Random random) {
        int sum = 0;
        for (int often : OFTEN) {
            sum += often;
        }
        int drawn = random.nextInt(sum);
        for (int op = 0; op < OFTEN.length; op++) {
            drawn -= OFTEN[op];
            if (drawn < 0) {
                return op;
            }
        }
        return 0;
    }

    /** A number of a thing of which there are so many; sometimes one that does not exist. */
    private static int pick(Random random, int number) {
        int kind = random.nextInt(24);
        if (kind == 0) {
            return number;
        }
        if (kind == 1) {
            return -1;
        }
        if (kind == 2 && random.nextInt(4) == 0) {
            return new int[] {Integer.MIN_VALUE, Integer.MAX_VALUE, 31, 32, 64, -2, 100}[random.nextInt(7)];
        }
        return number == 0 ? 0 : random.nextInt(number);
    }

    private static int[] arguments(Random random, int op, Model m) {
        int lessons = m.lessons.size();
        int rooms = m.seats.size();
        int classes = m.classes.size();
        switch (NAMES[op]) {
            case "setGrid":
                return new int[] {1 + pick(random, 2), 1 + pick(random, 3)};
            case "addClass":
                return new int[] {1 + pick(random, 40), pick(random, rooms + 1) - 1};
            case "addRoom":
                return new int[] {1 + pick(random, 99)};
            case "addLesson":
                return new int[] {pick(random, classes), pick(random, m.teachers), 1 + pick(random, 2)};
            case "addRule": {
                int kind = pick(random, 8);
                int a = pick(random, kind == 1 || kind == 7 ? m.teachers : lessons);
                int b = pick(random, kind == 0 || kind == 7 ? m.slots() : kind == 1 ? 4 : kind == 6 ? rooms : lessons);
                return new int[] {kind, a, b};
            }
            case "dropRule":
            case "isNeeded":
                return new int[] {pick(random, m.rules.size())};
            case "left":
            case "at":
                return new int[] {pick(random, lessons)};
            case "leftAt":
                return new int[] {pick(random, lessons), pick(random, random.nextBoolean() ? 3 : 18)};
            case "place":
                return new int[] {pick(random, lessons), pick(random, m.slots()), pick(random, rooms)};
            case "print": {
                int kind = pick(random, 3);
                return new int[] {kind, pick(random, kind == 0 ? classes : kind == 1 ? m.teachers : rooms)};
            }
            case "outputByte":
                return new int[] {pick(random, 8)};
            case "coreAt":
                return new int[] {pick(random, random.nextBoolean() ? 1 : 5)};
            case "matched":
            case "unfit":
                return new int[] {pick(random, m.slots())};
            case "setWeights":
                return new int[] {pick(random, 10), pick(random, 10), pick(random, 10)};
            case "away":
            case "against":
                return new int[] {pick(random, m.teachers), pick(random, m.days)};
            case "share":
                return new int[] {pick(random, m.teachers)};
            case "examDays":
                return new int[] {pick(random, 1 << lessons)};
            case "examDay":
                return new int[] {pick(random, 1 << lessons), pick(random, lessons)};
            case "count":
                return new int[] {pick(random, 6)};
            default:
                return new int[] {};
        }
    }

    private boolean step(Roomandhour x, Model m, int op, int[] a, StringBuilder log) {
        String due;
        try {
            due = onModel(m, NAMES[op], a);
        } catch (Model.TooMany tooMany) {
            skipped++;
            return true;
        } catch (RuntimeException thrown) {
            due = thrown.getClass().getSimpleName();
        }
        String got;
        try {
            got = onClass(x, NAMES[op], a);
            answered[op]++;
        } catch (RuntimeException thrown) {
            got = thrown.getClass().getSimpleName();
            threw[op]++;
        }
        played++;
        log.append(' ').append(NAMES[op]).append(java.util.Arrays.toString(a)).append('=').append(got);
        if (!due.equals(got)) {
            wrong++;
            System.out.println(NAMES[op] + java.util.Arrays.toString(a) + " answered " + got + ", due is " + due);
            return false;
        }
        return true;
    }

    /** Also a call that threw, or that was told to change nothing, must leave all as it was. */
    private boolean sameState(Roomandhour x, Model m, StringBuilder log) {
        boolean same = x.checksum() == m.checksum();
        for (int what = 0; what < 6; what++) {
            same &= x.count(what) == m.count(what);
        }
        StringBuilder output = new StringBuilder();
        for (int k = 0; k < 10; k++) {
            int sign = x.outputByte(k);
            if (sign != -1) {
                output.append((char) sign);
            }
        }
        same &= output.toString().equals(m.output);
        if (!same) {
            wrong++;
            System.out.println("the state is another one: checksum " + x.checksum() + ", due is " + m.checksum());
        }
        return same;
    }

    private static String onClass(Roomandhour x, String name, int[] a) {
        switch (name) {
            case "setGrid": return "" + x.setGrid(a[0], a[1]);
            case "addClass": return "" + x.addClass(a[0], a[1]);
            case "addTeacher": return "" + x.addTeacher();
            case "addRoom": return "" + x.addRoom(a[0]);
            case "addLesson": return "" + x.addLesson(a[0], a[1], a[2]);
            case "addRule": return "" + x.addRule(a[0], a[1], a[2]);
            case "dropRule": return "" + x.dropRule(a[0]);
            case "left": return "" + x.left(a[0]);
            case "leftAt": return "" + x.leftAt(a[0], a[1]);
            case "first": return "" + x.first();
            case "next": return "" + x.next();
            case "place": return "" + x.place(a[0], a[1], a[2]);
            case "at": return "" + x.at(a[0]);
            case "broken": return "" + x.broken();
            case "groundFaults": return "" + x.groundFaults();
            case "image": return "" + x.image();
            case "restore": return "" + x.restore();
            case "print": return "" + x.print(a[0], a[1]);
            case "outputByte": return "" + x.outputByte(a[0]);
            case "core": return "" + x.core();
            case "cores": return "" + x.cores();
            case "coreAt": return "" + x.coreAt(a[0]);
            case "isNeeded": return "" + x.isNeeded(a[0]);
            case "matched": return "" + x.matched(a[0]);
            case "unfit": return "" + x.unfit(a[0]);
            case "setWeights": return "" + x.setWeights(a[0], a[1], a[2]);
            case "weight": return "" + x.weight();
            case "best": return "" + x.best();
            case "bound": return "" + x.bound();
            case "improve": return "" + x.improve();
            case "away": return "" + x.away(a[0], a[1]);
            case "against": return "" + x.against(a[0], a[1]);
            case "fairest": return "" + x.fairest();
            case "share": return "" + x.share(a[0]);
            case "examDays": return "" + x.examDays(a[0]);
            case "examDay": return "" + x.examDay(a[0], a[1]);
            case "count": return "" + x.count(a[0]);
            case "checksum": return "" + x.checksum();
            case "meanHour": return "" + x.meanHour();
            case "usedShare": return "" + x.usedShare();
            default: return "" + x.errors();
        }
    }

    private static String onModel(Model m, String name, int[] a) {
        switch (name) {
            case "setGrid": return "" + m.setGrid(a[0], a[1]);
            case "addClass": return "" + m.addClass(a[0], a[1]);
            case "addTeacher": return "" + m.addTeacher();
            case "addRoom": return "" + m.addRoom(a[0]);
            case "addLesson": return "" + m.addLesson(a[0], a[1], a[2]);
            case "addRule": return "" + m.addRule(a[0], a[1], a[2]);
            case "dropRule": return "" + m.dropRule(a[0]);
            case "left": return "" + m.left(a[0]);
            case "leftAt": return "" + m.leftAt(a[0], a[1]);
            case "first": return "" + m.first();
            case "next": return "" + m.next();
            case "place": return "" + m.place(a[0], a[1], a[2]);
            case "at": return "" + m.at(a[0]);
            case "broken": return "" + m.broken();
            case "groundFaults": return "" + m.groundFaults();
            case "image": return "" + m.image();
            case "restore": return "" + m.restore();
            case "print": return "" + m.print(a[0], a[1]);
            case "outputByte": return "" + m.outputByte(a[0]);
            case "core": return "" + m.core();
            case "cores": return "" + m.cores();
            case "coreAt": return "" + m.coreAt(a[0]);
            case "isNeeded": return "" + m.isNeeded(a[0]);
            case "matched": return "" + m.matched(a[0]);
            case "unfit": return "" + m.unfit(a[0]);
            case "setWeights": return "" + m.setWeights(a[0], a[1], a[2]);
            case "weight": return "" + m.weight();
            case "best": return "" + m.best();
            case "bound": return "" + m.bound();
            case "improve": return "" + m.improve();
            case "away": return "" + m.away(a[0], a[1]);
            case "against": return "" + m.against(a[0], a[1]);
            case "fairest": return "" + m.fairest();
            case "share": return "" + m.share(a[0]);
            case "examDays": return "" + m.examDays(a[0]);
            case "examDay": return "" + m.examDay(a[0], a[1]);
            case "count": return "" + m.count(a[0]);
            case "checksum": return "" + m.checksum();
            case "meanHour": return "" + m.meanHour();
            case "usedShare": return "" + m.usedShare();
            default: return "" + m.errors();
        }
    }
}
