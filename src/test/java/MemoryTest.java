import java.lang.management.ManagementFactory;
import java.lang.reflect.Array;
import java.lang.reflect.Field;
import java.lang.reflect.Modifier;
import java.util.ArrayDeque;
import java.util.Deque;
import java.util.IdentityHashMap;
import java.util.Map;
import java.util.Random;

/** All calls of one run share a small memory: an object is small, and no call that answers makes anything new. */
public final class MemoryTest {
    private static int wrong = 0;

    public static void main(String[] args) throws Exception {
        size(new Roomandhour());
        if (ManagementFactory.getThreadMXBean() instanceof com.sun.management.ThreadMXBean) {
            calls((com.sun.management.ThreadMXBean) ManagementFactory.getThreadMXBean());
        }
        System.out.println(wrong + " wrong");
        if (wrong > 0) {
            System.exit(1);
        }
    }

    private static void size(Roomandhour x) throws IllegalAccessException {
        Map<Object, Boolean> seen = new IdentityHashMap<>();
        Deque<Object> open = new ArrayDeque<>();
        open.add(x);
        long elements = 0;
        while (!open.isEmpty()) {
            Object object = open.poll();
            if (seen.put(object, true) != null) {
                continue;
            }
            if (object.getClass().isArray()) {
                elements += Array.getLength(object);
                continue;
            }
            for (Field field : object.getClass().getDeclaredFields()) {
                if (Modifier.isStatic(field.getModifiers())) {
                    continue;
                }
                elements++;
                field.setAccessible(true);
                if (!field.getType().isPrimitive() && field.get(object) != null) {
                    open.add(field.get(object));
                }
            }
        }
        System.out.println("one object: " + seen.size() + " objects and arrays, " + elements + " fields and elements");
        // A run of a thousand of them would still stay well inside the room.
        check(seen.size() <= 100, "many objects");
        check(elements <= 2000, "many elements");
    }

    private static void calls(com.sun.management.ThreadMXBean bean) {
        Roomandhour[] schools = new Roomandhour[40];
        for (int k = 0; k < schools.length; k++) {
            schools[k] = school(new Random(k));
        }
        long before = 0;
        long behind = 0;
        for (int round = 0; round < 3; round++) {
            before = bean.getThreadAllocatedBytes(Thread.currentThread().getId());
            for (int k = 0; k < schools.length; k++) {
                all(schools[k]);
            }
            behind = bean.getThreadAllocatedBytes(Thread.currentThread().getId());
        }
        long made = behind - before;
        System.out.println(made + " bytes made by " + schools.length + " rounds of all calls");
        check(made < 1000, "the calls make something");
    }

    private static Roomandhour school(Random random) {
        Roomandhour x = new Roomandhour();
        x.addRoom(30);
        x.addRoom(20);
        for (int k = 0; k < 3; k++) {
            x.addClass(10 + random.nextInt(11), random.nextInt(2));
            x.addTeacher();
        }
        for (int k = 0; k < 5; k++) {
            x.addLesson(random.nextInt(3), random.nextInt(3), random.nextInt(4) == 0 ? 2 : 1);
        }
        x.addRule(Roomandhour.AHEAD, 0, 1);
        x.addRule(Roomandhour.AT_MOST, 0, 2);
        x.addRule(Roomandhour.NEAR, 2, 3);
        if (random.nextBoolean()) {
            x.addRule(Roomandhour.TOGETHER, 3, 0);
            x.addRule(Roomandhour.APART, 3, 2);
        }
        return x;
    }

    private static long all(Roomandhour x) {
        long sum = 0;
        // The rule is added and dropped, so that nothing is known from the round before.
        x.addRule(Roomandhour.IN_ROOM, 4, 0);
        x.dropRule(x.count(4) - 1);
        for (int lesson = 0; lesson < 5; lesson++) {
            sum += x.left(lesson);
        }
        x.place(0, 0, 0);
        sum += x.first() ? 1 : 0;
        sum += x.next() ? 1 : 0;
        sum += x.at(0) + x.broken() + x.groundFaults() + x.image() + x.restore() + x.print(0, 0) + x.outputByte(0);
        sum += x.core() + x.cores() + (x.isNeeded(0) ? 1 : 0) + x.matched(0) + x.unfit(0) + x.setWeights(1, 2, 3);
        sum += x.weight() + x.best() + x.bound();
        if (x.groundFaults() == 0 && x.broken() == 0) {
            sum += x.improve();
        }
        sum += x.away(0, 0) + x.against(0, 0) + (x.fairest() ? 1 : 0) + x.share(0) + x.examDays(31) + x.examDay(31, 4);
        sum += x.count(0) + x.checksum() + (long) x.meanHour() + (long) x.usedShare() + x.errors();
        return sum;
    }

    private static void check(boolean holds, String otherwise) {
        if (!holds) {
            wrong++;
            System.out.println(otherwise);
        }
    }
}
