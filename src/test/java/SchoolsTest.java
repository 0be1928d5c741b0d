import java.util.Random;

/**
 * Asks all that is solved on many small random schools, most of which have good timetables, and compares the answers,
 * and the timetables that they make, with the slow model.
 */
public final class SchoolsTest {
    private int wrong = 0;
    private int asked = 0;
    private int good = 0;
    private int schools = 0;
    private int left = 0;
    private int moved = 0;
    private Roomandhour x;
    private Model m;
    private StringBuilder log;

    public static void main(String[] args) {
        int number = args.length > 0 ? Integer.parseInt(args[0]) : 4000;
        int most = args.length > 1 ? Integer.parseInt(args[1]) : 4000;
        long seed = args.length > 2 ? Long.parseLong(args[2]) : 1;
        SchoolsTest test = new SchoolsTest();
        for (int k = 0; k < number && test.wrong < 5; k++) {
            test.school(new Random(seed * 1000003 + k), most);
        }
        System.out.println(test.schools + " schools, " + test.good + " with a good timetable, " + test.left + " left out, "
            + test.moved + " rings moved, " + test.asked + " answers compared, " + test.wrong + " wrong");
        if (test.wrong > 0 || test.good * 3 < test.schools) {
            System.exit(1);
        }
    }

    private void school(Random random, int most) {
        x = new Roomandhour();
        m = new Model();
        m.most = most;
        log = new StringBuilder();
        int before = wrong;
        build(random);
        try {
            m.entries();
        } catch (Model.TooMany tooMany) {
            left++;
            return;
        }
        schools++;
        ask(random);
        if (wrong > before) {
            System.out.println("in the school" + log);
        }
    }

    private void build(Random random) {
        int days = 1 + random.nextInt(2);
        int hours = Math.max(1 + random.nextInt(3), 1 + random.nextInt(3));
        both("setGrid", x.setGrid(days, hours), m.setGrid(days, hours));
        int rooms = 1 + random.nextInt(3);
        for (int k = 0; k < rooms; k++) {
            int seats = 20 + 10 * random.nextInt(2);
            both("addRoom(" + seats + ")", x.addRoom(seats), m.addRoom(seats));
        }
        int classes = Math.max(1 + random.nextInt(4), 1 + random.nextInt(4));
        int teachers = Math.max(1 + random.nextInt(4), 1 + random.nextInt(4));
        for (int k = 0; k < classes; k++) {
            int pupils = random.nextInt(6) == 0 ? 25 : 15;
            int home = random.nextInt(rooms + 1) - 1;
            both("addClass(" + pupils + ", " + home + ")", x.addClass(pupils, home), m.addClass(pupils, home));
        }
        for (int k = 0; k < teachers; k++) {
            both("addTeacher()", x.addTeacher(), m.addTeacher());
        }
        int lessons = 1 + random.nextInt(Math.min(6, days * hours * rooms));
        for (int k = 0; k < lessons; k++) {
            int c = random.nextInt(classes);
            int t = random.nextInt(teachers);
            int length = hours > 1 && random.nextInt(5) == 0 ? 2 : 1;
            both("addLesson(" + c + ", " + t + ", " + length + ")", x.addLesson(c, t, length), m.addLesson(c, t, length));
        }
        int rules = random.nextInt(random.nextInt(4) == 0 ? 11 : 4);
        for (int k = 0; k < rules; k++) {
            rule(random, teachers, lessons, rooms);
        }
    }

    private void rule(Random random, int teachers, int lessons, int rooms) {
        int kind = random.nextInt(8);
        int a = random.nextInt(kind == 1 || kind == 7 ? teachers : lessons);
        int b = kind == 0 || kind == 7 ? random.nextInt(m.slots()) : kind == 1 ? 1 + random.nextInt(3)
            : kind == 6 ? random.nextInt(rooms) : random.nextInt(lessons);
        if (kind < 2 || kind > 5 || a != b) {
            both("addRule(" + kind + ", " + a + ", " + b + ")", x.addRule(kind, a, b), m.addRule(kind, a, b));
        }
    }

    private void ask(Random random) {
        for (int lesson = 0; lesson < m.lessons.size(); lesson++) {
            both("left(" + lesson + ")", x.left(lesson), m.left(lesson));
        }
        both("core()", x.core(), m.core());
        both("cores()", x.cores(), m.cores());
        for (int k = 0; k < m.cores() && k < 4; k++) {
            both("coreAt(" + k + ")", x.coreAt(k), m.coreAt(k));
        }
        both("first()", x.first(), m.first());
        if (m.core() == -1) {
            good++;
        }
        for (int k = 0; k < 6 && m.now != null; k++) {
            both("next()", x.next(), m.next());
        }
        both("fairest()", x.fairest(), m.fairest());
        for (int k = 0; k < 4; k++) {
            weigh(random);
        }
        for (int k = 0; k < 3; k++) {
            scatter(random);
            both("next()", x.next(), m.next());
            scatter(random);
            int teacher = random.nextInt(m.teachers);
            int day = random.nextInt(m.days);
            both("away(" + teacher + ", " + day + ")", x.away(teacher, day), m.away(teacher, day));
            both("against(" + teacher + ", " + day + ")", x.against(teacher, day), m.against(teacher, day));
        }
        for (int k = 0; k < 3; k++) {
            ring(random);
        }
        both("errors()", x.errors(), 0);
    }

    private void weigh(Random random) {
        int late = random.nextInt(3);
        int rooms = random.nextInt(4);
        int gaps = random.nextInt(10);
        both("setWeights(" + late + ", " + rooms + ", " + gaps + ")", x.setWeights(late, rooms, gaps), m.setWeights(late, rooms, gaps));
        both("bound()", x.bound(), m.bound());
        both("best()", x.best(), m.best());
    }

    private void scatter(Random random) {
        for (int lesson = 0; lesson < m.lessons.size(); lesson++) {
            put(lesson, random.nextInt(m.slots()), random.nextInt(m.seats.size()));
        }
        both("groundFaults()", x.groundFaults(), m.groundFaults());
        both("broken()", x.broken(), m.broken());
        both("weight()", x.weight(), m.weight());
    }

    private void put(int lesson, int slot, int room) {
        both("place(" + lesson + ", " + slot + ", " + room + ")", x.place(lesson, slot, room), m.place(lesson, slot, room));
    }

    /** Asks for rings from some good timetable until none is moved. */
    private void ring(Random random) {
        if (m.entries().isEmpty()) {
            return;
        }
        Model.Entry entry = m.entries().get(random.nextInt(m.entries().size()));
        if (entry.broken != 0) {
            return;
        }
        for (int lesson = 0; lesson < entry.table.length; lesson++) {
            put(lesson, entry.table[lesson] / 10, entry.table[lesson] % 10);
        }
        int gain = 1;
        for (int k = 0; k < 4 && gain > 0; k++) {
            gain = m.improve();
            both("improve()", x.improve(), gain);
            moved += gain > 0 ? 1 : 0;
        }
    }

    private void both(String call, Object got, Object due) {
        asked++;
        log.append(' ').append(call);
        if (!got.equals(due)) {
            wrong++;
            System.out.println(call + " answered " + got + ", due is " + due);
        } else if (x.checksum() != m.checksum()) {
            wrong++;
            System.out.println(call + " left another timetable than is due");
        }
    }
}
