import java.util.ArrayList;
import java.util.Arrays;
import java.util.Collections;
import java.util.List;
import java.util.NoSuchElementException;
import java.util.TreeSet;

/**
 * A slow second program of the document, for the tests: it goes through all timetables that keep the ground rules.
 * It shares no code with the class, and is written after the document's words rather than for speed.
 */
final class Model {
    static final class Lesson {
        int schoolClass, teacher, length;
    }

    /** A timetable that keeps the ground rules, and the told rules that it breaks. */
    static final class Entry {
        int[] table;
        int broken;
    }

    /** Thrown where there are more timetables than the model goes through. */
    static final class TooMany extends RuntimeException {
        private static final long serialVersionUID = 1L;
    }

    int most = 20000;
    int days = 2, hours = 3;
    final List<int[]> classes = new ArrayList<>();
    int teachers = 0;
    final List<Integer> seats = new ArrayList<>();
    final List<Lesson> lessons = new ArrayList<>();
    final List<int[]> rules = new ArrayList<>();
    int late = 1, roomWeight = 1, gapWeight = 1;
    /** For each lesson 10 * slot + room. */
    int[] now = null;
    int[] picture = null;
    String output = "";
    private List<int[]> tables = null;
    private List<Entry> entries = null;

    int slots() {
        return days * hours;
    }

    // ---- what there is

    int setGrid(int d, int h) {
        if (d < 1 || d > 2 || h < 1 || h > 3) throw new IllegalArgumentException();
        for (int[] rule : rules) if (rule[0] == 0 || rule[0] == 7) throw new IllegalStateException();
        days = d;
        hours = h;
        now = null;
        forget();
        return d * h;
    }

    int addClass(int pupils, int home) {
        if (home < -1 || home >= seats.size()) throw new IndexOutOfBoundsException();
        if (pupils < 1 || pupils > 99) throw new IllegalArgumentException();
        if (classes.size() == 4) throw new IllegalStateException();
        classes.add(new int[] {pupils, home});
        return classes.size() - 1;
    }

    int addTeacher() {
        if (teachers == 4) throw new IllegalStateException();
        return teachers++;
    }

    int addRoom(int places) {
        if (places < 1 || places > 99) throw new IllegalArgumentException();
        if (seats.size() == 3) throw new IllegalStateException();
        seats.add(places);
        forget();
        return seats.size() - 1;
    }

    int addLesson(int schoolClass, int teacher, int length) {
        if (schoolClass < 0 || schoolClass >= classes.size() || teacher < 0 || teacher >= teachers) throw new IndexOutOfBoundsException();
        if (length < 1 || length > 2) throw new IllegalArgumentException();
        if (lessons.size() == 6) throw new IllegalStateException();
        Lesson lesson = new Lesson();
        lesson.schoolClass = schoolClass;
        lesson.teacher = teacher;
        lesson.length = length;
        lessons.add(lesson);
        now = null;
        forget();
        return lessons.size() - 1;
    }

    int addRule(int kind, int a, int b) {
        if (kind < 0 || kind > 7) throw new IllegalArgumentException();
        int boundA = kind == 1 || kind == 7 ? teachers : lessons.size();
        int boundB = kind == 0 || kind == 7 ? slots() : kind == 1 ? 4 : kind == 6 ? seats.size() : lessons.size();
        if (a < 0 || a >= boundA || b < 0 || b >= boundB) throw new IllegalArgumentException();
        if (kind >= 2 && kind <= 5 && a == b) throw new IllegalArgumentException();
        if (rules.size() == 10) throw new IllegalStateException();
        rules.add(new int[] {kind, a, b});
        entries = null;
        return rules.size() - 1;
    }

    int dropRule(int rule) {
        needRule(rule);
        rules.remove(rule);
        entries = null;
        return rules.size();
    }

    // ---- rules

    List<Integer> covered(int lesson, int slot) {
        List<Integer> list = new ArrayList<>();
        list.add(slot);
        if (lessons.get(lesson).length == 2 && slot + 1 < slots()) list.add(slot + 1);
        return list;
    }

    int lastOf(int lesson, int slot) {
        List<Integer> list = covered(lesson, slot);
        return list.get(list.size() - 1);
    }

    int day(int slot) {
        return slot / hours;
    }

    boolean overlap(int lesson, int slot, int other, int otherSlot) {
        return !Collections.disjoint(covered(lesson, slot), covered(other, otherSlot));
    }

    boolean keepsA(int lesson, int slot) {
        return lessons.get(lesson).length == 1 || slot % hours != hours - 1;
    }

    boolean keepsB(int lesson, int room) {
        return classes.get(lessons.get(lesson).schoolClass)[0] <= seats.get(room);
    }

    boolean sameClass(int i, int j) {
        return lessons.get(i).schoolClass == lessons.get(j).schoolClass;
    }

    boolean sameTeacher(int i, int j) {
        return lessons.get(i).teacher == lessons.get(j).teacher;
    }

    int pairFaults(int i, int vi, int j, int vj) {
        if (!overlap(i, vi / 10, j, vj / 10)) return 0;
        int number = 0;
        if (sameClass(i, j)) number++;
        if (sameTeacher(i, j)) number++;
        if (vi % 10 == vj % 10) number++;
        return number;
    }

    boolean pairRule(int[] rule, int va, int vb) {
        int sa = va / 10, sb = vb / 10;
        int la = lastOf(rule[1], sa), lb = lastOf(rule[2], sb);
        if (rule[0] == 2) return sa == sb;
        if (rule[0] == 3) return day(sa) != day(sb);
        if (rule[0] == 4) return la < sb;
        return day(sa) == day(sb) && (sb == la + 1 || sa == lb + 1);
    }

    TreeSet<Integer> teacherSlots(int[] table, int teacher) {
        TreeSet<Integer> set = new TreeSet<>();
        for (int i = 0; i < lessons.size(); i++) if (lessons.get(i).teacher == teacher) set.addAll(covered(i, table[i] / 10));
        return set;
    }

    boolean keeps(int[] rule, int[] table) {
        int a = rule[1], b = rule[2];
        switch (rule[0]) {
            case 0:
                return !covered(a, table[a] / 10).contains(b);
            case 1:
                for (int d = 0; d < days; d++) {
                    int number = 0;
                    for (int slot : teacherSlots(table, a)) if (day(slot) == d) number++;
                    if (number > b) return false;
                }
                return true;
            case 6:
                return table[a] % 10 == b;
            case 7:
                return !teacherSlots(table, a).contains(b);
            default:
                return pairRule(rule, table[a], table[b]);
        }
    }

    int brokenBy(int[] table) {
        int set = 0;
        for (int k = 0; k < rules.size(); k++) if (!keeps(rules.get(k), table)) set += 1 << k;
        return set;
    }

    int faultsOf(int[] table) {
        int number = 0;
        for (int i = 0; i < table.length; i++) {
            if (!keepsA(i, table[i] / 10)) number++;
            if (!keepsB(i, table[i] % 10)) number++;
            for (int j = i + 1; j < table.length; j++) number += pairFaults(i, table[i], j, table[j]);
        }
        return number;
    }

    int weightOf(int[] table) {
        int sum = 0;
        for (int i = 0; i < table.length; i++) {
            sum += late * (lastOf(i, table[i] / 10) % hours);
            int home = classes.get(lessons.get(i).schoolClass)[1];
            if (home != -1 && home != table[i] % 10) sum += roomWeight;
        }
        for (int t = 0; t < teachers; t++) {
            TreeSet<Integer> set = teacherSlots(table, t);
            for (int slot = 0; slot < slots(); slot++) {
                if (set.contains(slot)) continue;
                boolean before = false, behind = false;
                for (int other : set) {
                    if (day(other) == day(slot)) {
                        if (other < slot) before = true;
                        else behind = true;
                    }
                }
                if (before && behind) sum += gapWeight;
            }
        }
        return sum;
    }

    int shareOf(int[] table, int teacher) {
        int number = 0;
        for (int i = 0; i < table.length; i++) {
            if (lessons.get(i).teacher != teacher) continue;
            boolean last = false;
            for (int slot : covered(i, table[i] / 10)) if (slot % hours == hours - 1) last = true;
            if (last) number++;
        }
        return number;
    }

    int[] sortedShares(int[] table) {
        int[] row = new int[teachers];
        for (int t = 0; t < teachers; t++) row[t] = -shareOf(table, t);
        Arrays.sort(row);
        for (int t = 0; t < teachers; t++) row[t] = -row[t];
        return row;
    }

    // ---- all timetables that keep the ground rules

    List<Integer> ownValues(int lesson) {
        List<Integer> list = new ArrayList<>();
        for (int slot = 0; slot < slots(); slot++)
            for (int room = 0; room < seats.size(); room++)
                if (keepsA(lesson, slot) && keepsB(lesson, room)) list.add(10 * slot + room);
        return list;
    }

    List<Entry> entries() {
        if (tables == null) {
            List<int[]> list = new ArrayList<>();
            walk(list, new int[lessons.size()], 0);
            tables = list;
        }
        if (entries == null) {
            entries = new ArrayList<>();
            for (int[] table : tables) {
                Entry entry = new Entry();
                entry.table = table;
                entry.broken = brokenBy(table);
                entries.add(entry);
            }
        }
        return entries;
    }

    private void walk(List<int[]> list, int[] table, int lesson) {
        if (lesson == table.length) {
            if (list.size() == most) throw new TooMany();
            list.add(table.clone());
            return;
        }
        for (int value : ownValues(lesson)) {
            table[lesson] = value;
            boolean clash = false;
            for (int j = 0; j < lesson; j++) if (pairFaults(j, table[j], lesson, value) > 0) clash = true;
            if (!clash) walk(list, table, lesson + 1);
        }
    }

    private void forget() {
        tables = null;
        entries = null;
    }

    boolean canKeep(int set, int teacher, int day) {
        for (Entry entry : entries()) if ((entry.broken & set) == 0 && isAway(entry.table, teacher, day)) return true;
        return false;
    }

    boolean isAway(int[] table, int teacher, int day) {
        if (teacher == -1) return true;
        for (int slot : teacherSlots(table, teacher)) if (day(slot) == day) return false;
        return true;
    }

    boolean isGood(int[] table) {
        return faultsOf(table) == 0 && brokenBy(table) == 0;
    }

    static int differences(int[] one, int[] other) {
        int number = 0;
        for (int i = 0; i < one.length; i++) if (one[i] != other[i]) number++;
        return number;
    }

    // ---- what is left

    List<TreeSet<Integer>> narrowed() {
        int n = lessons.size();
        List<TreeSet<Integer>> left = new ArrayList<>();
        for (int i = 0; i < n; i++) {
            TreeSet<Integer> set = new TreeSet<>();
            for (int value : ownValues(i)) {
                boolean ok = true;
                for (int[] rule : rules) {
                    if (rule[0] == 0 && rule[1] == i && covered(i, value / 10).contains(rule[2])) ok = false;
                    if (rule[0] == 6 && rule[1] == i && value % 10 != rule[2]) ok = false;
                    if (rule[0] == 7 && rule[1] == lessons.get(i).teacher && covered(i, value / 10).contains(rule[2])) ok = false;
                }
                if (ok) set.add(value);
            }
            left.add(set);
        }
        boolean again = true;
        while (again) {
            again = false;
            for (int i = 0; i < n; i++) {
                for (int value : new ArrayList<>(left.get(i))) {
                    for (int j = 0; j < n; j++) {
                        if (j == i) continue;
                        boolean support = false;
                        for (int w : left.get(j)) if (goTogether(i, value, j, w)) support = true;
                        if (!support && left.get(i).remove(value)) again = true;
                    }
                }
            }
            for (int c = 0; c < classes.size(); c++) {
                List<Integer> group = new ArrayList<>();
                for (int i = 0; i < n; i++) if (lessons.get(i).schoolClass == c) group.add(i);
                again |= crowd(left, group);
            }
            for (int t = 0; t < teachers; t++) {
                List<Integer> group = new ArrayList<>();
                for (int i = 0; i < n; i++) if (lessons.get(i).teacher == t) group.add(i);
                again |= crowd(left, group);
            }
        }
        return left;
    }

    private boolean goTogether(int i, int vi, int j, int vj) {
        if (pairFaults(i, vi, j, vj) > 0) return false;
        for (int[] rule : rules) {
            if (rule[0] < 2 || rule[0] > 5) continue;
            if (rule[1] == i && rule[2] == j && !pairRule(rule, vi, vj)) return false;
            if (rule[1] == j && rule[2] == i && !pairRule(rule, vj, vi)) return false;
        }
        return true;
    }

    private boolean crowd(List<TreeSet<Integer>> left, List<Integer> group) {
        boolean changed = false;
        for (int set = (1 << group.size()) - 1; set > 0; set--) {
            TreeSet<Integer> union = new TreeSet<>();
            int sum = 0;
            for (int k = 0; k < group.size(); k++) {
                if ((set >> k) % 2 == 1) {
                    sum += lessons.get(group.get(k)).length;
                    for (int value : left.get(group.get(k))) union.addAll(covered(group.get(k), value / 10));
                }
            }
            if (union.size() < sum) {
                for (TreeSet<Integer> values : left) {
                    changed |= !values.isEmpty();
                    values.clear();
                }
            } else if (union.size() == sum) {
                for (int k = 0; k < group.size(); k++) {
                    if ((set >> k) % 2 == 1) continue;
                    int lesson = group.get(k);
                    changed |= left.get(lesson).removeIf(value -> !Collections.disjoint(covered(lesson, value / 10), union));
                }
            }
        }
        return changed;
    }

    int left(int lesson) {
        needLesson(lesson);
        return narrowed().get(lesson).size();
    }

    int leftAt(int lesson, int index) {
        needLesson(lesson);
        List<Integer> list = new ArrayList<>(narrowed().get(lesson));
        if (index < 0 || index >= list.size()) throw new NoSuchElementException();
        return list.get(index);
    }

    // ---- timetables

    boolean first() {
        for (Entry entry : entries()) {
            if (entry.broken == 0) {
                now = entry.table.clone();
                return true;
            }
        }
        return false;
    }

    boolean next() {
        needTable();
        for (Entry entry : entries()) {
            if (entry.broken == 0 && Arrays.compare(entry.table, now) > 0) {
                now = entry.table.clone();
                return true;
            }
        }
        return false;
    }

    int place(int lesson, int slot, int room) {
        needLesson(lesson);
        needSlot(slot);
        if (room < 0 || room >= seats.size()) throw new IndexOutOfBoundsException();
        int before = now == null ? -1 : now[lesson];
        if (now == null) now = new int[lessons.size()];
        now[lesson] = 10 * slot + room;
        return before;
    }

    int at(int lesson) {
        needLesson(lesson);
        needTable();
        return now[lesson];
    }

    int broken() {
        needTable();
        return brokenBy(now);
    }

    int groundFaults() {
        needTable();
        return faultsOf(now);
    }

    int image() {
        needTable();
        int changed = picture == null || picture.length != now.length ? -1 : differences(picture, now);
        picture = now.clone();
        return changed;
    }

    int restore() {
        if (picture == null || picture.length != lessons.size()) throw new IllegalStateException();
        for (int value : picture) if (value / 10 >= slots() || value % 10 >= seats.size()) throw new IllegalStateException();
        int changed = now == null ? -1 : differences(picture, now);
        now = picture.clone();
        return changed;
    }

    int print(int kind, int number) {
        if (kind < 0 || kind > 2) throw new IllegalArgumentException();
        int bound = kind == 0 ? classes.size() : kind == 1 ? teachers : seats.size();
        if (number < 0 || number >= bound) throw new IndexOutOfBoundsException();
        needTable();
        StringBuilder text = new StringBuilder();
        for (int slot = 0; slot < slots(); slot++) {
            if (slot > 0 && slot % hours == 0) text.append('|');
            String sign = ".";
            for (int i = lessons.size() - 1; i >= 0; i--) {
                Lesson lesson = lessons.get(i);
                int owner = kind == 0 ? lesson.schoolClass : kind == 1 ? lesson.teacher : now[i] % 10;
                if (owner == number && covered(i, now[i] / 10).contains(slot)) sign = Integer.toString(i);
            }
            text.append(sign);
        }
        output = text.toString();
        return output.length();
    }

    int outputByte(int index) {
        return index < 0 || index >= output.length() ? -1 : output.charAt(index);
    }

    // ---- rules that cannot be kept together

    int coreFor(int teacher, int day) {
        int set = (1 << rules.size()) - 1;
        if (canKeep(set, teacher, day)) return -1;
        for (int k = rules.size() - 1; k >= 0; k--) if (!canKeep(set - (1 << k), teacher, day)) set -= 1 << k;
        return set;
    }

    int core() {
        return coreFor(-1, 0);
    }

    List<Integer> allCores() {
        TreeSet<Integer> brokenSets = new TreeSet<>();
        for (Entry entry : entries()) brokenSets.add(entry.broken);
        List<Integer> list = new ArrayList<>();
        if (brokenSets.contains(0)) return list;
        for (int size = 0; size <= rules.size() && list.isEmpty(); size++) {
            for (int set = 0; set < 1 << rules.size(); set++) {
                if (Integer.bitCount(set) != size) continue;
                boolean kept = false;
                for (int broken : brokenSets) if ((broken & set) == 0) kept = true;
                if (!kept) list.add(set);
            }
        }
        return list;
    }

    int cores() {
        return allCores().size();
    }

    int coreAt(int index) {
        List<Integer> list = allCores();
        if (index < 0 || index >= list.size()) throw new NoSuchElementException();
        return list.get(index);
    }

    boolean isNeeded(int rule) {
        needRule(rule);
        int all = (1 << rules.size()) - 1;
        return !canKeep(all, -1, 0) && canKeep(all - (1 << rule), -1, 0);
    }

    // ---- rooms of a slot

    private List<Integer> lessonsIn(int slot) {
        List<Integer> list = new ArrayList<>();
        for (int i = 0; i < lessons.size(); i++) if (covered(i, now[i] / 10).contains(slot)) list.add(i);
        return list;
    }

    int matched(int slot) {
        needSlot(slot);
        needTable();
        return match(lessonsIn(slot), 0, new boolean[3]);
    }

    private int match(List<Integer> list, int k, boolean[] taken) {
        if (k == list.size()) return 0;
        int most = match(list, k + 1, taken);
        for (int room = 0; room < seats.size(); room++) {
            if (!taken[room] && keepsB(list.get(k), room)) {
                taken[room] = true;
                most = Math.max(most, 1 + match(list, k + 1, taken));
                taken[room] = false;
            }
        }
        return most;
    }

    int unfit(int slot) {
        needSlot(slot);
        needTable();
        List<Integer> here = lessonsIn(slot);
        for (int size = 1; size <= 6; size++) {
            for (int set = 1; set < 64; set++) {
                if (Integer.bitCount(set) != size) continue;
                boolean inside = true;
                TreeSet<Integer> rooms = new TreeSet<>();
                for (int i = 0; i < 6; i++) {
                    if ((set >> i) % 2 == 0) continue;
                    if (!here.contains(i)) {
                        inside = false;
                    } else {
                        for (int room = 0; room < seats.size(); room++) if (keepsB(i, room)) rooms.add(room);
                    }
                }
                if (inside && size > rooms.size()) return set;
            }
        }
        return 0;
    }

    // ---- weights

    int setWeights(int newLate, int newRooms, int newGaps) {
        for (int weight : new int[] {newLate, newRooms, newGaps}) if (weight < 0 || weight > 9) throw new IllegalArgumentException();
        int before = late;
        late = newLate;
        roomWeight = newRooms;
        gapWeight = newGaps;
        return before;
    }

    int weight() {
        needTable();
        return weightOf(now);
    }

    int best() {
        int least = -1;
        int[] table = null;
        for (Entry entry : entries()) {
            if (entry.broken != 0) continue;
            int weight = weightOf(entry.table);
            if (table == null || weight < least) {
                least = weight;
                table = entry.table;
            }
        }
        if (table != null) now = table.clone();
        return least;
    }

    int bound() {
        int sum = 0;
        List<TreeSet<Integer>> left = narrowed();
        for (int i = 0; i < lessons.size(); i++) {
            int least = -1;
            for (int value : left.get(i)) {
                int home = classes.get(lessons.get(i).schoolClass)[1];
                int weight = late * (lastOf(i, value / 10) % hours) + (home == -1 || home == value % 10 ? 0 : roomWeight);
                if (least == -1 || weight < least) least = weight;
            }
            if (least == -1) return -1;
            sum += least;
        }
        return sum;
    }

    int improve() {
        needTable();
        if (!isGood(now)) throw new IllegalStateException();
        int before = weightOf(now);
        int least = before;
        int[] table = now;
        for (int size = 2; size <= 4; size++) {
            List<int[]> rows = new ArrayList<>();
            rows(rows, new int[size], 0);
            for (int[] row : rows) {
                int[] moved = now.clone();
                for (int k = 0; k < size; k++) moved[row[k]] = now[row[(k + 1) % size]];
                if (isGood(moved) && weightOf(moved) < least) {
                    least = weightOf(moved);
                    table = moved;
                }
            }
        }
        now = table;
        return before - least;
    }

    private void rows(List<int[]> rows, int[] row, int k) {
        if (k == row.length) {
            boolean fits = true;
            for (int i = 0; i < k; i++) {
                if (row[i] < row[0] || lessons.get(row[i]).length != lessons.get(row[0]).length) fits = false;
                for (int j = 0; j < i; j++) if (row[i] == row[j]) fits = false;
            }
            if (fits) rows.add(row.clone());
            return;
        }
        for (int i = 0; i < lessons.size(); i++) {
            row[k] = i;
            rows(rows, row, k + 1);
        }
    }

    // ---- a teacher away, shares, exams

    int away(int teacher, int day) {
        if (teacher < 0 || teacher >= teachers || day < 0 || day >= days) throw new IndexOutOfBoundsException();
        needTable();
        int[] table = null;
        for (Entry entry : entries()) {
            if (entry.broken != 0 || !isAway(entry.table, teacher, day)) continue;
            if (table == null || differences(entry.table, now) < differences(table, now)) table = entry.table;
        }
        if (table == null) return -1;
        int changed = differences(table, now);
        now = table.clone();
        return changed;
    }

    int against(int teacher, int day) {
        if (teacher < 0 || teacher >= teachers || day < 0 || day >= days) throw new IndexOutOfBoundsException();
        return coreFor(teacher, day);
    }

    boolean fairest() {
        int[] table = null;
        for (Entry entry : entries()) {
            if (entry.broken != 0) continue;
            if (table == null || Arrays.compare(sortedShares(entry.table), sortedShares(table)) < 0) table = entry.table;
        }
        if (table != null) now = table.clone();
        return table != null;
    }

    int share(int teacher) {
        if (teacher < 0 || teacher >= teachers) throw new IndexOutOfBoundsException();
        needTable();
        return shareOf(now, teacher);
    }

    private int[] examRow(int set) {
        List<Integer> list = new ArrayList<>();
        for (int i = 0; i < lessons.size(); i++) if ((set >> i) % 2 == 1) list.add(i);
        for (int number = 1; ; number++) {
            int all = 1;
            for (int k = 0; k < list.size(); k++) all *= number;
            for (int code = 0; code < all; code++) {
                int[] row = new int[6];
                int rest = code;
                for (int k = list.size() - 1; k >= 0; k--) {
                    row[list.get(k)] = rest % number;
                    rest /= number;
                }
                boolean ok = true;
                for (int i : list) for (int j : list) if (i < j && row[i] == row[j] && (sameClass(i, j) || sameTeacher(i, j))) ok = false;
                if (ok) return row;
            }
        }
    }

    int examDays(int set) {
        if (set < 0 || set >= 1 << lessons.size()) throw new IllegalArgumentException();
        if (set == 0) return 0;
        int[] row = examRow(set);
        int most = 0;
        for (int i = 0; i < lessons.size(); i++) if ((set >> i) % 2 == 1) most = Math.max(most, row[i]);
        return most + 1;
    }

    int examDay(int set, int lesson) {
        needLesson(lesson);
        if (set < 0 || set >= 1 << lessons.size() || (set >> lesson) % 2 == 0) throw new IllegalArgumentException();
        return examRow(set)[lesson];
    }

    // ---- checks

    int count(int what) {
        if (what < 0 || what > 5) throw new IllegalArgumentException();
        return new int[] {classes.size(), teachers, seats.size(), lessons.size(), rules.size(), slots()}[what];
    }

    long checksum() {
        long c = 0;
        for (int[] rule : rules) for (int n : rule) c = 31 * c + n;
        for (int i = 0; i < lessons.size(); i++) c = 31 * c + (now == null ? -1 : now[i]);
        return c;
    }

    double meanHour() {
        needTable();
        int sum = 0;
        for (int value : now) sum += value / 10 % hours;
        return now.length == 0 ? 0.0 : (double) sum / (double) now.length;
    }

    float usedShare() {
        needTable();
        if (seats.isEmpty()) return 0.0f;
        TreeSet<Integer> pairs = new TreeSet<>();
        for (int i = 0; i < now.length; i++) for (int slot : covered(i, now[i] / 10)) pairs.add(10 * slot + now[i] % 10);
        return (float) pairs.size() / (float) (seats.size() * slots());
    }

    int errors() {
        return 0;
    }

    // ---- tests of arguments

    private void needTable() {
        if (now == null) throw new IllegalStateException();
    }

    private void needLesson(int lesson) {
        if (lesson < 0 || lesson >= lessons.size()) throw new IndexOutOfBoundsException();
    }

    private void needSlot(int slot) {
        if (slot < 0 || slot >= slots()) throw new IndexOutOfBoundsException();
    }

    private void needRule(int rule) {
        if (rule < 0 || rule >= rules.size()) throw new IndexOutOfBoundsException();
    }
}
