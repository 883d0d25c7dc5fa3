import java.util.ArrayDeque;
import java.util.ArrayList;
import java.util.Arrays;
import java.util.HashMap;
import java.util.List;
import java.util.Map;
import java.util.NoSuchElementException;
import java.util.Set;
import java.util.TreeSet;

/** The document once more, as plainly and slowly as it can be written, to be compared with the class. */
final class Model {
    static final class Person {
        int grows;
        int hunger;
        int coin;
        int eaten;
        boolean ill;
    }

    static final class Food {
        int fills;
        int left;
    }

    static final class Meeting {
        List<Integer> crowd = new ArrayList<>();
        int held = -1;
    }

    static final class Debt {
        int from;
        int to;
        int amount;
        int date;
        int paid = -1;
    }

    static final class World {
        int span = 10;
        int winterFrom;
        int winterLong;
        int hour;
        int unpaid;
        Map<String, String> names = new HashMap<>();
        List<Person> persons = new ArrayList<>();
        List<Food> foods = new ArrayList<>();
        List<Meeting> meetings = new ArrayList<>();
        List<Debt> debts = new ArrayList<>();

        World copy() {
            World w = new World();
            w.span = span;
            w.winterFrom = winterFrom;
            w.winterLong = winterLong;
            w.hour = hour;
            w.unpaid = unpaid;
            w.names.putAll(names);
            for (Person p : persons) {
                Person q = new Person();
                q.grows = p.grows;
                q.hunger = p.hunger;
                q.coin = p.coin;
                q.eaten = p.eaten;
                q.ill = p.ill;
                w.persons.add(q);
            }
            for (Food f : foods) {
                Food g = new Food();
                g.fills = f.fills;
                g.left = f.left;
                w.foods.add(g);
            }
            for (Meeting m : meetings) {
                Meeting n = new Meeting();
                n.crowd.addAll(m.crowd);
                n.held = m.held;
                w.meetings.add(n);
            }
            for (Debt d : debts) {
                Debt e = new Debt();
                e.from = d.from;
                e.to = d.to;
                e.amount = d.amount;
                e.date = d.date;
                e.paid = d.paid;
                w.debts.add(e);
            }
            return w;
        }

        int date(int p) {
            return persons.get(p).hunger / span;
        }

        int eat(int p, int f) {
            if (persons.get(p).ill) return 1;
            if (foods.get(f).left == 0) return 2;
            if (persons.get(p).hunger == 0) return 3;
            foods.get(f).left--;
            persons.get(p).eaten++;
            persons.get(p).hunger = Math.max(0, persons.get(p).hunger - foods.get(f).fills);
            return 0;
        }

        int ail(int p) {
            if (persons.get(p).ill) return 1;
            persons.get(p).ill = true;
            return 0;
        }

        int mend(int p) {
            if (!persons.get(p).ill) return 1;
            persons.get(p).ill = false;
            return 0;
        }

        Set<Integer> dates(int m) {
            Set<Integer> dates = new TreeSet<>();
            for (int p : meetings.get(m).crowd) dates.add(date(p));
            return dates;
        }

        int whyNotMeet(int m) {
            if (meetings.get(m).held >= 0) return 1;
            for (int p : meetings.get(m).crowd) if (persons.get(p).ill) return 2;
            return dates(m).size() > 1 ? 3 : 0;
        }

        int meet(int m) {
            int why = whyNotMeet(m);
            if (why == 0) meetings.get(m).held = hour;
            return why;
        }

        boolean due(Debt d) {
            return d.paid < 0 && !persons.get(d.from).ill && date(d.from) >= d.date;
        }

        boolean winter() {
            return hour >= winterFrom && hour < winterFrom + winterLong;
        }

        boolean pass() {
            if (hour == 600) return false;
            for (Person p : persons) {
                if (!p.ill) p.hunger = Math.min(199, p.hunger + p.grows * (winter() ? 2 : 1));
            }
            boolean unpaidNow = false;
            for (Debt d : debts) {
                if (!due(d)) continue;
                if (persons.get(d.from).coin >= d.amount) {
                    persons.get(d.from).coin -= d.amount;
                    persons.get(d.to).coin += d.amount;
                    d.paid = hour;
                } else {
                    unpaidNow = true;
                }
            }
            if (unpaidNow) unpaid++;
            hour++;
            return true;
        }

        int drawHours(int n, int seed) {
            int x = seed;
            for (int i = 0; i < n; i++) {
                if (hour == 600) return i;
                for (int p = 0; p < persons.size(); p++) {
                    x = x * 1103515245 + 12345;
                    int act = (x >>> 8) % 8;
                    if (act == 0) {
                        x = x * 1103515245 + 12345;
                        eat(p, (x >>> 8) % foods.size());
                    } else if (act == 1 && ail(p) != 0) {
                        mend(p);
                    }
                }
                for (int m = 0; m < meetings.size(); m++) meet(m);
                pass();
            }
            return n;
        }
    }

    static final class Fault extends Exception {
        private static final long serialVersionUID = 1;
        final int place;
        final int kind;

        Fault(int place, int kind) {
            this.place = place;
            this.kind = kind;
        }
    }

    /** A token as a text: a word, a number, a sign; null at the end; "?" for what is no token. */
    static final class Text {
        final List<String> tokens = new ArrayList<>();
        final List<Integer> places = new ArrayList<>();
        int at;

        Text(byte[] bytes, int most) {
            int i = 0;
            while (i < bytes.length && i < most) {
                char c = (char) (bytes[i] & 255);
                if (c == ' ' || c == '\n') {
                    i++;
                    continue;
                }
                int j = i;
                while (j < bytes.length && (bytes[j] >= 'a' && bytes[j] <= 'z' || bytes[j] >= '0' && bytes[j] <= '9')) j++;
                String s = new String(bytes, i, Math.max(1, j - i), java.nio.charset.StandardCharsets.ISO_8859_1);
                places.add(i);
                tokens.add(s.matches("[a-z]{1,7}|[0-9]{1,3}|[;<=>().]") ? s : "?");
                i = Math.max(i + 1, j);
            }
            places.add(Math.min(bytes.length, most));
            tokens.add(bytes.length > most ? "?" : null);
        }

        String peek() {
            return tokens.get(at);
        }

        boolean is(String s) {
            return s.equals(peek());
        }

        int place() {
            return places.get(at);
        }

        Fault fault(int kind) {
            return new Fault(place(), kind);
        }

        void sign(String s) throws Fault {
            if (!is(s)) throw fault(1);
            at++;
        }

        int number(int least, int most) throws Fault {
            if (peek() == null || !peek().matches("[0-9]+")) throw fault(1);
            int n = Integer.parseInt(peek());
            if (n < least || n > most) throw fault(2);
            at++;
            return n;
        }

        String name() throws Fault {
            if (peek() == null || !peek().matches("[a-z]+") || KEYS.contains(peek())) throw fault(1);
            return peek();
        }

        int named(World w, char sort) throws Fault {
            String n = w.names.get(name());
            if (n == null || n.charAt(0) != sort) throw fault(3);
            return Integer.parseInt(n.substring(1));
        }

        int take(World w, char sort) throws Fault {
            int n = named(w, sort);
            at++;
            return n;
        }
    }

    static final Set<String> KEYS = Set.of("span", "winter", "person", "food", "meeting", "debt", "eats", "ails",
            "mends", "meet", "hour", "or", "and", "not", "ill", "owes", "like", "in", "date", "hunger", "coin",
            "number");

    byte[] tape = new byte[0];
    World w = new World();
    String sentence;
    int fault;
    ArrayDeque<World> acts = new ArrayDeque<>();
    World[] imageWorld = new World[2];
    String[] imageSentence = new String[2];
    int[] plates;
    int feast = -1;
    int surely = -1;
    int ask = -1;
    int[] told;

    byte[] takeTape() {
        byte[] t = tape;
        tape = new byte[0];
        return t;
    }

    int feed(int a, int b, int c, int d, int e) {
        if (tape.length + 20 > 940) return -1;
        java.nio.ByteBuffer buffer = java.nio.ByteBuffer.allocate(tape.length + 20);
        buffer.put(tape).putInt(a).putInt(b).putInt(c).putInt(d).putInt(e);
        tape = buffer.array();
        return tape.length;
    }

    boolean end(int n) {
        if (n < 0 || n > tape.length) return false;
        tape = Arrays.copyOf(tape, n);
        return true;
    }

    int valley() {
        World v = new World();
        Text t = new Text(takeTape(), 900);
        int lines = 0;
        boolean span = false;
        boolean winter = false;
        try {
            for (; t.peek() != null; lines++) {
                String first = t.peek();
                if (first.equals("span")) {
                    if (span) throw t.fault(3);
                    span = true;
                    t.at++;
                    v.span = t.number(1, 20);
                } else if (first.equals("winter")) {
                    if (winter) throw t.fault(3);
                    winter = true;
                    t.at++;
                    v.winterFrom = t.number(0, 399);
                    v.winterLong = t.number(1, 200);
                } else if (first.equals("person")) {
                    if (v.persons.size() == 6) throw t.fault(4);
                    t.at++;
                    tell(t, v, "p" + v.persons.size());
                    Person p = new Person();
                    p.grows = t.number(0, 9);
                    p.hunger = t.number(0, 199);
                    p.coin = t.number(0, 999);
                    v.persons.add(p);
                } else if (first.equals("food")) {
                    if (v.foods.size() == 4) throw t.fault(4);
                    t.at++;
                    tell(t, v, "f" + v.foods.size());
                    Food f = new Food();
                    f.fills = t.number(1, 60);
                    f.left = t.number(0, 5);
                    v.foods.add(f);
                } else if (first.equals("meeting")) {
                    if (v.meetings.size() == 6) throw t.fault(4);
                    t.at++;
                    tell(t, v, "m" + v.meetings.size());
                    Meeting m = new Meeting();
                    do {
                        int p = t.named(v, 'p');
                        if (m.crowd.contains(p)) throw t.fault(3);
                        m.crowd.add(p);
                        t.at++;
                    } while (!t.is(";"));
                    v.meetings.add(m);
                } else if (first.equals("debt")) {
                    if (v.debts.size() == 10) throw t.fault(4);
                    t.at++;
                    Debt d = new Debt();
                    d.from = t.take(v, 'p');
                    d.to = t.named(v, 'p');
                    if (d.to == d.from) throw t.fault(3);
                    for (Debt e : v.debts) if (e.from == d.from && e.to == d.to) throw t.fault(3);
                    t.at++;
                    d.amount = t.number(1, 250);
                    d.date = t.number(0, 199);
                    v.debts.add(d);
                } else {
                    throw t.fault(1);
                }
                t.sign(";");
            }
        } catch (Fault f) {
            fault = f.kind;
            return -1 - f.place;
        }
        fault = 0;
        w = v;
        sentence = null;
        acts.clear();
        return lines;
    }

    static void tell(Text t, World v, String what) throws Fault {
        if (v.names.containsKey(t.name())) throw t.fault(3);
        v.names.put(t.peek(), what);
        t.at++;
    }

    static int bit(boolean b) {
        return b ? 1 : 0;
    }

    boolean noPerson(int p) {
        return p < 0 || p >= w.persons.size();
    }

    int person(int p, int what) {
        if (noPerson(p)) throw new NoSuchElementException();
        Person q = w.persons.get(p);
        int meetings = 0;
        for (int m = 0; m < w.meetings.size(); m++) if (w.meetings.get(m).crowd.contains(p)) meetings += 1 << m;
        int owes = 0;
        for (Debt d : w.debts) if (d.from == p && d.paid < 0) owes += d.amount;
        int[] all = {q.hunger, w.date(p), bit(q.ill), q.coin, q.eaten, q.grows, meetings, owes};
        if (what < 0 || what >= all.length) throw new NoSuchElementException();
        return all[what];
    }

    int food(int f, int what) {
        if (f < 0 || f >= w.foods.size() || what < 0 || what > 1) return -1;
        return what == 0 ? w.foods.get(f).fills : w.foods.get(f).left;
    }

    boolean noMeeting(int m) {
        return m < 0 || m >= w.meetings.size();
    }

    int meeting(int m, int what) {
        if (noMeeting(m) || what < 0 || what > 3) return -1;
        int crowd = 0;
        for (int p : w.meetings.get(m).crowd) crowd |= 1 << p;
        return new int[] {crowd, w.meetings.get(m).held, w.whyNotMeet(m), w.dates(m).size()}[what];
    }

    int debt(int d, int what) {
        if (d < 0 || d >= w.debts.size() || what < 0 || what > 5) throw new NoSuchElementException();
        Debt e = w.debts.get(d);
        return new int[] {e.from, e.to, e.amount, e.date, e.paid, bit(w.due(e))}[what];
    }

    static int held(World v) {
        int held = 0;
        for (int m = 0; m < v.meetings.size(); m++) held |= bit(v.meetings.get(m).held >= 0) << m;
        return held;
    }

    int now(int what) {
        int ill = 0;
        int coin = 0;
        for (int p = 0; p < w.persons.size(); p++) {
            ill |= bit(w.persons.get(p).ill) << p;
            coin += w.persons.get(p).coin;
        }
        int paid = 0;
        for (int d = 0; d < w.debts.size(); d++) paid |= bit(w.debts.get(d).paid >= 0) << d;
        int portions = 0;
        for (Food f : w.foods) portions += f.left;
        int[] all = {w.hour, bit(w.winter()), ill, held(w), paid, coin, portions, w.unpaid};
        return what < 0 || what >= all.length ? -1 : all[what];
    }

    int count(int what) {
        int[] all = {w.persons.size(), w.foods.size(), w.meetings.size(), w.debts.size(), w.span, tape.length};
        return what < 0 || what >= all.length ? -1 : all[what];
    }

    void keep(World before) {
        acts.push(before);
        if (acts.size() > 8) acts.removeLast();
    }

    int act(World before, int why) {
        if (why == 0) keep(before);
        return why;
    }

    int eat(int p, int f) {
        return noPerson(p) || f < 0 || f >= w.foods.size() ? -1 : act(w.copy(), w.eat(p, f));
    }

    int ail(int p) {
        return noPerson(p) ? -1 : act(w.copy(), w.ail(p));
    }

    int mend(int p) {
        return noPerson(p) ? -1 : act(w.copy(), w.mend(p));
    }

    int meet(int m) {
        return noMeeting(m) ? -1 : act(w.copy(), w.meet(m));
    }

    int hours(int n) {
        if (n < 1 || n > 60) return -1;
        World before = w.copy();
        int gone = 0;
        while (gone < n && w.pass()) gone++;
        if (gone > 0) keep(before);
        return gone;
    }

    int undo() {
        if (acts.isEmpty()) return -1;
        w = acts.pop();
        return acts.size();
    }

    int on(int date) {
        if (date < 0 || date > 199) return -1;
        int bits = 0;
        for (int p = 0; p < w.persons.size(); p++) bits |= bit(w.date(p) == date) << p;
        return bits;
    }

    int common() {
        int best = -1;
        for (int date = 0; date < 200; date++) {
            if (Integer.bitCount(on(date)) > (best < 0 ? 0 : Integer.bitCount(on(best)))) best = date;
        }
        return best;
    }

    /** Tries each order of three portions at most; the plates with the date behind each. */
    Map<Integer, Integer> platesOf(int hunger) {
        Map<Integer, Integer> found = new java.util.TreeMap<>();
        eatOn(hunger, 0, 0, found);
        return found;
    }

    void eatOn(int hunger, int plate, int portions, Map<Integer, Integer> found) {
        found.put(plate, hunger / w.span);
        if (portions == 3 || hunger == 0) return;
        for (int f = 0; f < w.foods.size(); f++) {
            eatOn(Math.max(0, hunger - w.foods.get(f).fills), plate + (1 << 2 * f), portions + 1, found);
        }
    }

    int table(int set) {
        if (set < 0 || set >= 1 << w.persons.size()) return -1;
        List<Integer> who = new ArrayList<>();
        List<Map<Integer, Integer>> can = new ArrayList<>();
        for (int p = 0; p < w.persons.size(); p++) {
            if ((set >> p & 1) == 0) continue;
            if (w.persons.get(p).ill) return -1;
            who.add(p);
            can.add(platesOf(w.persons.get(p).hunger));
        }
        int[] left = new int[4];
        for (int f = 0; f < w.foods.size(); f++) left[f] = w.foods.get(f).left;
        for (int total = 0; total <= 18; total++) {
            for (int date = 199; date >= 0; date--) {
                int[] chosen = new int[who.size()];
                if (search(can, left, 0, total, date, chosen)) {
                    plates = new int[6];
                    Arrays.fill(plates, -1);
                    for (int i = 0; i < chosen.length; i++) plates[who.get(i)] = chosen[i];
                    feast = who.isEmpty() ? -1 : date;
                    return total;
                }
            }
        }
        return -1;
    }

    static boolean search(List<Map<Integer, Integer>> can, int[] left, int i, int total, int date, int[] chosen) {
        if (i == chosen.length) return total == 0;
        for (Map.Entry<Integer, Integer> e : can.get(i).entrySet()) {
            if (e.getValue() != date) continue;
            int[] rest = left.clone();
            int size = 0;
            boolean enough = true;
            for (int f = 0; f < 4; f++) {
                int n = e.getKey() >> 2 * f & 3;
                size += n;
                rest[f] -= n;
                enough &= rest[f] >= 0;
            }
            chosen[i] = e.getKey();
            if (enough && size <= total && search(can, rest, i + 1, total - size, date, chosen)) return true;
        }
        return false;
    }

    int plate(int p) {
        return noPerson(p) || plates == null ? -1 : plates[p];
    }

    int ate() {
        byte[] t = takeTape();
        if (t.length != 2 || (t[0] & 255) > 199) return -1;
        List<Integer> found = new ArrayList<>();
        for (Map.Entry<Integer, Integer> e : platesOf(t[0] & 255).entrySet()) {
            if (e.getValue() == (t[1] & 255)) found.add(e.getKey());
        }
        if (found.isEmpty()) return 0;
        surely = 0;
        ask = -1;
        int most = 0;
        for (int f = 0; f < w.foods.size(); f++) {
            Set<Integer> unlike = new TreeSet<>();
            for (int plate : found) unlike.add(plate >> 2 * f & 3);
            if (!unlike.contains(0)) surely |= 1 << f;
            if (unlike.size() > most) {
                most = unlike.size();
                ask = f;
            }
        }
        return found.size();
    }

    int twins(int p, int q) {
        if (noPerson(p) || noPerson(q) || p == q) return -1;
        World v = w.copy();
        for (int i = 0; i <= 200; i++) {
            if (v.date(p) == v.date(q)) return v.hour;
            if (!v.pass()) break;
        }
        return -1;
    }

    int late(int date) {
        if (date < 0 || date > 199 || w.persons.isEmpty()) return -1;
        World v = w.copy();
        for (int i = 0; i <= 200; i++) {
            boolean all = true;
            for (int p = 0; p < v.persons.size(); p++) all &= v.date(p) >= date;
            if (all) return v.hour;
            if (!v.pass()) break;
        }
        return -1;
    }

    int share(int cheese, int p) {
        if (cheese < 0 || cheese > 999 || noPerson(p) || w.persons.get(p).ill) return -1;
        int all = 0;
        for (Person q : w.persons) all += q.ill ? 0 : q.hunger;
        if (all == 0) return 0;
        int[] part = new int[6];
        int[] rest = new int[6];
        Arrays.fill(rest, -1);
        int over = cheese;
        for (int q = 0; q < w.persons.size(); q++) {
            if (w.persons.get(q).ill) continue;
            part[q] = cheese * w.persons.get(q).hunger / all;
            rest[q] = cheese * w.persons.get(q).hunger % all;
            over -= part[q];
        }
        for (; over > 0; over--) {
            int best = 0;
            for (int q = 1; q < 6; q++) if (rest[q] > rest[best]) best = q;
            part[best]++;
            rest[best] = -1;
        }
        return part[p];
    }

    static int pick(List<Integer> found, int k) {
        return k == -1 ? found.size() : k < 0 || k >= found.size() ? -1 : found.get(k);
    }

    int clash(int k) {
        List<Integer> found = new ArrayList<>();
        for (int d = 0; d < w.debts.size(); d++) {
            Debt e = w.debts.get(d);
            if (e.paid < 0 && w.date(e.to) >= e.date && w.date(e.from) < e.date) found.add(d);
        }
        return pick(found, k);
    }

    int keeps(int date) {
        if (date < 1 || date > 199) return -1;
        World v = w.copy();
        for (int gone = 0;; gone++) {
            while (true) {
                int first = -1;
                for (int p = v.persons.size() - 1; p >= 0; p--) {
                    if (!v.persons.get(p).ill && v.date(p) >= date) first = p;
                }
                if (first < 0) break;
                int best = -1;
                for (int f = 0; f < v.foods.size(); f++) {
                    if (v.foods.get(f).left > (best < 0 ? 0 : v.foods.get(best).left)) best = f;
                }
                if (best < 0) return gone;
                v.eat(first, best);
            }
            if (gone == 200 || !v.pass()) return gone;
        }
    }

    int later(int p, int h) {
        if (noPerson(p) || h < w.hour || h > 600) return -1;
        World v = w.copy();
        while (v.hour < h) v.pass();
        return v.date(p);
    }

    int paid(int d) {
        if (d < 0 || d >= w.debts.size() || w.debts.get(d).paid >= 0) return -1;
        World v = w.copy();
        while (v.debts.get(d).paid < 0 && v.pass()) {
            continue;
        }
        return v.debts.get(d).paid;
    }

    int drawn(int n, int seed) {
        if (n < 1 || n > 60 || w.foods.isEmpty()) return -1;
        World before = w.copy();
        int gone = w.drawHours(n, seed);
        if (gone > 0) keep(before);
        return gone;
    }

    int odds(int m, int n, int seed) {
        if (noMeeting(m) || n < 1 || n > 30 || w.foods.isEmpty()) return -1;
        int held = 0;
        for (int i = 0; i < n; i++) {
            World v = w.copy();
            v.drawHours(20, seed + i);
            held += bit(v.meetings.get(m).held >= 0);
        }
        return held;
    }

    int book(int lives) {
        if (lives != 0 && lives != 1) return -1000;
        Text t = new Text(takeTape(), 400);
        List<int[]> lines = new ArrayList<>();
        try {
            while (t.peek() != null) {
                boolean meet = t.is("meet");
                boolean hour = t.is("hour");
                int p = meet || hour ? 0 : t.named(w, 'p');
                if (lines.size() == 40) throw t.fault(4);
                t.at++;
                if (meet) {
                    lines.add(new int[] {3, t.take(w, 'm')});
                } else if (hour) {
                    lines.add(new int[] {4, t.number(1, 60)});
                } else if (t.is("eats")) {
                    t.at++;
                    lines.add(new int[] {0, p, t.take(w, 'f')});
                } else if (t.is("ails") || t.is("mends")) {
                    lines.add(new int[] {t.is("ails") ? 1 : 2, p});
                    t.at++;
                } else {
                    throw t.fault(1);
                }
                t.sign(";");
            }
        } catch (Fault f) {
            fault = f.kind;
            return -2 - f.place;
        }
        fault = 0;
        World before = w.copy();
        int why = 0;
        int good = 0;
        for (int[] line : lines) {
            int no = 0;
            if (line[0] == 0) no = w.eat(line[1], line[2]);
            if (line[0] == 1) no = w.ail(line[1]);
            if (line[0] == 2) no = w.mend(line[1]);
            if (line[0] == 3) no = w.meet(line[1]);
            if (line[0] == 4 && w.hour + line[1] > 600) no = 1;
            if (no != 0) {
                why = 10 * line[0] + no;
                break;
            }
            for (int i = 0; line[0] == 4 && i < line[1]; i++) w.pass();
            good++;
        }
        told = new int[] {why, good, w.hour, held(w)};
        if (lives == 1) {
            keep(before);
        } else {
            w = before;
        }
        return why == 0 ? -1 : good;
    }

    int told(int what) {
        return told == null || what < 0 || what > 3 ? -1 : told[what];
    }

    int ones;

    int sentence() {
        byte[] bytes = takeTape();
        Text t = new Text(bytes, 200);
        ones = 0;
        try {
            cond(t, 1, 0);
            if (t.peek() != null) throw t.fault(1);
        } catch (Fault f) {
            fault = f.kind;
            return -1 - f.place;
        }
        fault = 0;
        sentence = new String(bytes, java.nio.charset.StandardCharsets.ISO_8859_1);
        return ones;
    }

    /** Reads and works it out at once for a person (there may be none: nothing is looked at then). */
    boolean cond(Text t, int depth, int p) throws Fault {
        boolean is = all(t, depth, p);
        while (t.is("or")) {
            t.at++;
            is |= all(t, depth, p);
        }
        return is;
    }

    boolean all(Text t, int depth, int p) throws Fault {
        boolean is = one(t, depth, p);
        while (t.is("and")) {
            t.at++;
            is &= one(t, depth, p);
        }
        return is;
    }

    boolean one(Text t, int depth, int p) throws Fault {
        String s = t.peek();
        if (s == null || !s.matches("not|[(]|ill|owes|like|in|date|hunger|coin|number")) throw t.fault(1);
        ones++;
        if (ones > 20 || depth > 8) throw t.fault(4);
        t.at++;
        boolean none = noPerson(p);
        switch (s) {
            case "not":
                return !one(t, depth + 1, p);
            case "(":
                boolean is = cond(t, depth + 1, p);
                t.sign(")");
                return is;
            case "ill":
                return !none && w.persons.get(p).ill;
            case "owes":
                return !none && person(p, 7) > 0;
            case "like":
                int q = t.take(w, 'p');
                return !none && w.date(p) == w.date(q);
            case "in":
                int m = t.take(w, 'm');
                return w.meetings.get(m).crowd.contains(p);
            default:
                if (!t.is("<") && !t.is("=") && !t.is(">")) throw t.fault(1);
                String sign = t.peek();
                t.at++;
                int than = t.number(0, 999);
                if (none) return false;
                int value = s.equals("date") ? w.date(p) : s.equals("hunger") ? w.persons.get(p).hunger
                        : s.equals("coin") ? w.persons.get(p).coin : p;
                return sign.equals("<") ? value < than : sign.equals("=") ? value == than : value > than;
        }
    }

    int said(int k) {
        if (sentence == null) return -1;
        List<Integer> found = new ArrayList<>();
        for (int p = 0; p < w.persons.size(); p++) {
            ones = 0;
            try {
                if (cond(new Text(sentence.getBytes(java.nio.charset.StandardCharsets.ISO_8859_1), 200), 1, p)) found.add(p);
            } catch (Fault f) {
                throw new IllegalStateException(f);
            }
        }
        return pick(found, k);
    }

    boolean image(int k) {
        if (k < 0 || k > 1) return false;
        imageWorld[k] = w.copy();
        imageSentence[k] = sentence;
        return true;
    }

    boolean restore(int k) {
        if (k < 0 || k > 1 || imageWorld[k] == null) return false;
        w = imageWorld[k].copy();
        sentence = imageSentence[k];
        acts.clear();
        return true;
    }
}
