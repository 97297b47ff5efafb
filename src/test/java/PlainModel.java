import java.util.ArrayDeque;
import java.util.ArrayList;
import java.util.Arrays;
import java.util.Deque;
import java.util.List;
import java.util.TreeMap;
import java.util.regex.Matcher;
import java.util.regex.Pattern;

/** The document in its plainest form, written apart from the class: lists, copies and trying out. */
final class PlainModel {
    static final int[] LOW = {1, 40, 0, 0, 0, 0};
    static final int[] HIGH = {8, 200, 99, 4000, 4000, 99};
    private static final String COMMAND = "(w[0-7][0-9]{2}(0[1-9]|[1-3][0-9]|40)|j[0-7][0-2][+-]"
            + "|r[0-7](0[1-9]|[1-4][0-9]|50)|l[0-7]|h[0-7][+-]|s[0-5]([0-3][0-9]{3}|4000)|t(0[1-9]|[1-9][0-9]))";
    private static final Pattern LOG = Pattern.compile("G" + COMMAND + "*");

    record Row(int number, int key, int value, int length, int time) {
    }

    static final class Person {
        int place;
        boolean held;
        int read;
        int missed;
        int last;
        int reason;
        Integer[] table = new Integer[8];

        Person copy() {
            Person p = new Person();
            p.place = place;
            p.held = held;
            p.read = read;
            p.missed = missed;
            p.last = last;
            p.reason = reason;
            p.table = table.clone();
            return p;
        }
    }

    static final class World {
        List<Row> written = new ArrayList<>();
        List<List<Row>> segments = new ArrayList<>();
        Integer[] base = new Integer[8];
        TreeMap<Integer, Person> people = new TreeMap<>();
        TreeMap<Integer, Person> gone = new TreeMap<>();
        int[] settings = {4, 100, 0, 400, 0, 0};
        int time;
        int dropped;
        int lost1;
        int lost2;
        int missed;

        World copy() {
            World w = new World();
            w.written.addAll(written);
            for (List<Row> s : segments) {
                w.segments.add(new ArrayList<>(s));
            }
            w.base = base.clone();
            people.forEach((name, p) -> w.people.put(name, p.copy()));
            gone.forEach((name, p) -> w.gone.put(name, p.copy()));
            w.settings = settings.clone();
            w.time = time;
            w.dropped = dropped;
            w.lost1 = lost1;
            w.lost2 = lost2;
            w.missed = missed;
            return w;
        }

        int end() {
            return written.size();
        }

        int first() {
            return segments.isEmpty() ? end() : segments.get(0).get(0).number();
        }

        List<Row> rows() {
            return written.subList(first(), end());
        }

        static int length(List<Row> rows) {
            return rows.stream().mapToInt(Row::length).sum();
        }

        List<Row> from(int place) {
            return written.subList(Math.max(place, first()), end());
        }

        boolean due(List<Row> segment) {
            return length(rows()) > settings[3]
                    || settings[2] > 0 && time >= settings[2] + segment.get(segment.size() - 1).time();
        }

        boolean held(List<Row> segment) {
            int lastRow = segment.get(segment.size() - 1).number();
            return people.values().stream().anyMatch(p -> p.held && p.place <= lastRow);
        }

        Integer told(int key, int row) {
            Integer value = null;
            for (Row r : written.subList(0, row)) {
                if (r.key() == key) {
                    value = r.value();
                }
            }
            return value;
        }

        void tick() {
            time++;
            for (Person p : people.values()) {
                if (p.held && settings[4] > 0 && length(from(p.place)) > settings[4]) {
                    p.held = false;
                    p.reason = 1;
                    lost1++;
                } else if (p.held && settings[5] > 0 && time >= settings[5] + p.last) {
                    p.held = false;
                    p.reason = 2;
                    lost2++;
                }
            }
            while (segments.size() > 1 && due(segments.get(0)) && !held(segments.get(0))) {
                for (Row r : segments.remove(0)) {
                    base[r.key()] = r.value();
                }
                dropped++;
            }
        }

        int ticks(int n) {
            int before = dropped;
            for (int i = 0; i < n; i++) {
                tick();
            }
            return dropped - before;
        }
    }

    World now = new World();
    private final Deque<World> past = new ArrayDeque<>();
    private final World[] slots = new World[2];
    private final StringBuilder text = new StringBuilder();

    static void range(int n, int low, int high) {
        if (n < low || n > high) {
            throw new IllegalArgumentException();
        }
    }

    private static void there(boolean is) {
        if (!is) {
            throw new IndexOutOfBoundsException();
        }
    }

    private static void may(boolean may) {
        if (!may) {
            throw new IllegalStateException();
        }
    }

    private static int orNone(Integer value) {
        return value == null ? -1 : value;
    }

    private static Person person(World w, int name) {
        there(w.people.containsKey(name));
        return w.people.get(name);
    }

    int append(int c) {
        range(c, 0, 255);
        may(text.length() < 120);
        return text.append((char) c).length();
    }

    int clearText() {
        int n = text.length();
        text.setLength(0);
        return n;
    }

    int errorPosition() {
        if (LOG.matcher(text).matches()) {
            return -1;
        }
        for (int n = 1; n <= text.length(); n++) {
            Matcher m = LOG.matcher(text.substring(0, n));
            if (!m.matches() && !m.hitEnd()) {
                return n - 1;
            }
        }
        return text.length();
    }

    int load() {
        may(errorPosition() == -1);
        now = new World();
        past.clear();
        Arrays.fill(slots, null);
        int left = 0;
        Matcher m = Pattern.compile(COMMAND).matcher(text);
        for (int at = 1; m.find(at); at = m.end()) {
            String s = m.group();
            try {
                command(s);
            } catch (RuntimeException e) {
                left++;
            }
        }
        return left;
    }

    private void command(String s) {
        int d = s.charAt(1) - '0';
        boolean plus = s.endsWith("+");
        switch (s.charAt(0)) {
            case 'w' -> write(now, d, Integer.parseInt(s.substring(2, 4)), Integer.parseInt(s.substring(4)));
            case 'j' -> join(now, d, s.charAt(2) - '0', plus);
            case 'r' -> read(now, d, Integer.parseInt(s.substring(2)));
            case 'l' -> leave(now, d);
            case 'h' -> hold(now, d, plus);
            case 's' -> set(now, d, Integer.parseInt(s.substring(2)));
            default -> ticks(now, Integer.parseInt(s.substring(1)));
        }
    }

    int about(int what) {
        range(what, 0, 11);
        List<Person> all = new ArrayList<>(now.people.values());
        return new int[] {now.end(), now.first(), now.segments.size(), World.length(now.rows()), all.size(),
            (int) all.stream().filter(p -> p.held).count(),
            (int) all.stream().filter(p -> p.place < now.first()).count(),
            now.time, now.dropped, now.lost1, now.lost2, now.missed}[what];
    }

    int rowOf(int i, int what) {
        there(i >= now.first() && i < now.end());
        range(what, 0, 5);
        Row r = now.written.get(i);
        List<Row> home = now.segments.stream().filter(s -> s.contains(r)).findFirst().get();
        return new int[] {r.key(), r.value(), r.length(), r.time(), home.get(0).number(),
            (int) now.people.values().stream().filter(p -> p.held && p.place <= i).count()}[what];
    }

    int segmentOf(int k, int what) {
        there(k >= 0 && k < now.segments.size());
        range(what, 0, 5);
        List<Row> s = now.segments.get(k);
        return new int[] {s.get(0).number(), s.size(), World.length(s), k + 1 < now.segments.size() ? 1 : 0,
            now.due(s) ? 1 : 0, now.held(s) ? 1 : 0}[what];
    }

    int readerOf(int name, int what) {
        Person p = person(now, name);
        range(what, 0, 8);
        return new int[] {p.place, p.held ? 1 : 0, p.read, p.missed, p.last, now.from(p.place).size(),
            World.length(now.from(p.place)), p.place < now.first() ? now.first() - p.place : 0, p.reason}[what];
    }

    int table(int name, int key) {
        Person p = person(now, name);
        range(key, 0, 7);
        return orNone(p.table[key]);
    }

    int base(int key) {
        range(key, 0, 7);
        return orNone(now.base[key]);
    }

    int setting(int what) {
        range(what, 0, 5);
        return now.settings[what];
    }

    private interface Deed {
        int on(World w);
    }

    private int act(Deed deed) {
        World before = now.copy();
        int answer = deed.on(now);
        past.addLast(before);
        if (past.size() > 14) {
            past.removeFirst();
        }
        return answer;
    }

    int write(int key, int value, int length) {
        return act(w -> write(w, key, value, length));
    }

    int join(int name, int how, boolean held) {
        return act(w -> join(w, name, how, held));
    }

    int read(int name, int n) {
        return act(w -> read(w, name, n));
    }

    int leave(int name) {
        return act(w -> leave(w, name));
    }

    int hold(int name, boolean held) {
        return act(w -> hold(w, name, held));
    }

    int set(int what, int v) {
        return act(w -> set(w, what, v));
    }

    int ticks(int n) {
        return act(w -> ticks(w, n));
    }

    private static int write(World w, int key, int value, int length) {
        range(key, 0, 7);
        range(value, 0, 99);
        range(length, 1, 40);
        may(w.end() < 200);
        Row r = new Row(w.end(), key, value, length, w.time);
        List<Row> open = w.segments.isEmpty() ? null : w.segments.get(w.segments.size() - 1);
        if (open == null || open.size() >= w.settings[0] || World.length(open) + length > w.settings[1]) {
            open = new ArrayList<>();
            w.segments.add(open);
        }
        open.add(r);
        w.written.add(r);
        return r.number();
    }

    private static int join(World w, int name, int how, boolean held) {
        range(name, 0, 7);
        range(how, 0, 2);
        may(!w.people.containsKey(name));
        Person p = new Person();
        p.last = w.time;
        p.held = held;
        if (how == 0) {
            p.place = w.first();
            p.table = w.base.clone();
        } else if (how == 1) {
            p.place = w.end();
            for (int key = 0; key < 8; key++) {
                p.table[key] = w.told(key, w.end());
            }
        } else {
            may(w.gone.containsKey(name));
            p.place = w.gone.get(name).place;
            p.table = w.gone.get(name).table.clone();
            may(!held || p.place >= w.first());
        }
        w.people.put(name, p);
        return p.place;
    }

    private static int read(World w, int name, int n) {
        Person p = person(w, name);
        range(n, 1, 50);
        p.last = w.time;
        if (p.place < w.first()) {
            int gap = w.first() - p.place;
            p.missed += gap;
            w.missed += gap;
            p.place = w.first();
            p.table = w.base.clone();
            return -gap;
        }
        int count = 0;
        while (count < n && p.place < w.end()) {
            Row r = w.written.get(p.place);
            p.table[r.key()] = r.value();
            p.place++;
            p.read++;
            count++;
        }
        return count;
    }

    private static int leave(World w, int name) {
        person(w, name);
        w.gone.put(name, w.people.remove(name));
        return w.people.size();
    }

    private static int hold(World w, int name, boolean held) {
        Person p = person(w, name);
        may(!held || p.place >= w.first());
        int before = p.held ? 1 : 0;
        p.held = held;
        p.reason = 0;
        return before;
    }

    private static int set(World w, int what, int v) {
        range(what, 0, 5);
        range(v, LOW[what], HIGH[what]);
        int before = w.settings[what];
        w.settings[what] = v;
        return before;
    }

    private static int ticks(World w, int n) {
        range(n, 1, 99);
        return w.ticks(n);
    }

    int undo() {
        may(!past.isEmpty());
        now = past.removeLast();
        return past.size();
    }

    int why() {
        if (now.segments.size() < 2) {
            return 1;
        }
        List<Row> s = now.segments.get(0);
        return !now.due(s) ? 2 : now.held(s) ? 3 : 0;
    }

    int slowest() {
        int best = -1;
        for (int name : now.people.keySet()) {
            Person p = now.people.get(name);
            if (p.held && (best < 0 || p.place < now.people.get(best).place)) {
                best = name;
            }
        }
        return best;
    }

    int truth(int key, int row, int way) {
        there(row >= now.first() && row <= now.end());
        range(key, 0, 7);
        range(way, 0, 1);
        return orNone(now.told(key, row));
    }

    int droppedIn() {
        World w = now.copy();
        for (int n = 1; n <= 300; n++) {
            if (w.ticks(1) > 0) {
                return n;
            }
        }
        return -1;
    }

    int lostIn(int name) {
        person(now, name);
        World w = now.copy();
        boolean held = w.people.get(name).held;
        for (int n = 1; held && n <= 300; n++) {
            w.tick();
            if (!w.people.get(name).held) {
                return n;
            }
        }
        return -1;
    }

    int ifFree(int name) {
        person(now, name);
        World w = now.copy();
        w.people.get(name).held = false;
        return w.ticks(1);
    }

    int leastRoom(int n) {
        range(n, 1, 200);
        for (int room = 0; room <= 4000; room++) {
            World w = now.copy();
            w.settings[3] = room;
            int dropped = 0;
            for (int i = 0; i < n && dropped == 0; i++) {
                dropped = w.ticks(1);
            }
            if (dropped == 0) {
                return room;
            }
        }
        return -1;
    }

    int runScript(int n, long script) {
        range(n, 1, 3);
        if (script < 0 || Long.toString(script).length() > 6 * n) {
            throw new IllegalArgumentException();
        }
        String digits = String.format("%0" + 6 * n + "d", script);
        World w = now.copy();
        for (int i = 0; i < n; i++) {
            try {
                if (!succeeds(w, digits.substring(6 * i, 6 * i + 6))) {
                    return i;
                }
            } catch (RuntimeException e) {
                return i;
            }
        }
        return -1;
    }

    private static int part(String s, int from, int to) {
        return Integer.parseInt(s.substring(from, to));
    }

    private static boolean succeeds(World w, String s) {
        int name = part(s, 1, 2);
        if (s.matches("1.....")) {
            return write(w, name, part(s, 2, 4), part(s, 4, 6)) >= 0;
        } else if (s.matches("2.00..")) {
            return read(w, name, part(s, 4, 6)) != 0;
        } else if (s.matches("3..00[01]")) {
            return join(w, name, part(s, 2, 3), s.endsWith("1")) >= 0;
        } else if (s.matches("4.0000")) {
            return leave(w, name) >= 0;
        } else if (s.matches("5000..")) {
            return ticks(w, part(s, 4, 6)) >= 0;
        } else if (s.matches("6.0...")) {
            return person(w, name).place >= part(s, 3, 6);
        } else if (s.matches("7[0-7]00..")) {
            return orNone(w.told(name, w.end())) == part(s, 4, 6);
        } else if (s.matches("800...")) {
            return w.first() >= part(s, 3, 6);
        } else {
            return s.matches("9.000[01]") && person(w, name).held == s.endsWith("1");
        }
    }

    int simulate(long seed, int m) {
        range(m, 1, 60);
        World w = now.copy();
        long x = seed;
        for (int i = 0; i < m; i++) {
            x = x * 6364136223846793005L + 1442695040888963407L;
            try {
                turn(w, (int) (x >>> 33));
            } catch (RuntimeException e) {
                continue;
            }
        }
        return 10000 * (w.dropped - now.dropped) + 100 * Math.min(99, w.missed - now.missed) + w.people.size();
    }

    private static void turn(World w, int r) {
        int q = r / 16;
        switch (r % 16) {
            case 0, 1, 2, 3, 4, 5 -> write(w, q % 8, q / 8 % 100, 1 + q / 1024 % 40);
            case 6, 7 -> join(w, q % 8, q / 8 % 3, q / 32 % 2 == 1);
            case 8, 9 -> read(w, q % 8, 1 + q / 8 % 12);
            case 10 -> {
                if (q / 8 % 4 == 0) {
                    leave(w, q % 8);
                } else {
                    hold(w, q % 8, q / 32 % 2 == 1);
                }
            }
            case 11 -> {
                if (q / 1024 % 2 == 0) {
                    set(w, 3, q % 600);
                } else {
                    set(w, 2, q % 20);
                }
            }
            default -> ticks(w, 1 + q % 8);
        }
    }

    int save(int slot) {
        there(slot == 0 || slot == 1);
        slots[slot] = now.copy();
        return now.time;
    }

    int restore(int slot) {
        there(slot == 0 || slot == 1);
        may(slots[slot] != null);
        now = slots[slot].copy();
        past.clear();
        return now.time;
    }
}
