import java.nio.charset.StandardCharsets;
import java.util.ArrayList;
import java.util.List;
import java.util.NoSuchElementException;
import java.util.Random;

/** All promises: runs of calls drawn by fixed seeds, each answer compared with that of the Model. */
final class ModelTest {
    private static final int THROWS = Integer.MIN_VALUE;
    private static final String[] WORDS = ("span winter person food meeting debt eats ails mends meet hour or and not "
            + "ill owes like in date hunger coin number ann bob cid dan eve fay bread cheese milk zuzz court mass "
            + "fair club x abcdefg abcdefgh a1 0 1 2 5 9 10 20 60 61 199 200 250 400 999 1000 ; < = > ( ) . ? ( not ;")
            .split(" ");
    private static final String[] PERSONS = {"ann", "bob", "cid", "dan", "eve", "fay"};
    private static final String[] FOODS = {"bread", "cheese", "milk", "zuzz"};
    private static final String[] MEETINGS = {"court", "mass", "fair", "club", "dance", "feast"};

    private final Random random;
    private final HungerDays x = new HungerDays();
    private final Model model = new Model();
    private int persons;
    private int foods;
    private int meetings;
    private int debts;
    private final List<String> run = new ArrayList<>();
    private boolean wrong;

    private ModelTest(long seed) {
        random = new Random(seed);
    }

    public static void main(String[] args) {
        int runs = args.length > 0 ? Integer.parseInt(args[0]) : 3000;
        int failed = 0;
        for (int seed = 0; seed < runs && failed < 3; seed++) {
            ModelTest test = new ModelTest(seed);
            test.goOn(450);
            if (test.wrong) {
                failed++;
                int from = Math.max(0, test.run.size() - 12);
                System.out.println("run by seed " + seed + ":");
                test.run.subList(from, test.run.size()).forEach(System.out::println);
            }
        }
        System.out.println(runs + " runs, " + failed + " not as due");
        if (failed > 0) {
            System.exit(1);
        }
    }

    private int below(int n) {
        return random.nextInt(n);
    }

    private boolean seldom() {
        return below(12) == 0;
    }

    private void goOn(int calls) {
        while (run.size() < calls && !wrong) {
            step();
        }
    }

    private void due(String call, int want, int got) {
        run.add(call + " answered " + got + ", due is " + want);
        wrong |= want != got;
    }

    private void due(String call, boolean want, boolean got) {
        due(call, want ? 1 : 0, got ? 1 : 0);
    }

    private int number(int n) {
        int[] odd = {-1, -2, n, n + 1, Integer.MAX_VALUE, Integer.MIN_VALUE};
        return n == 0 || seldom() ? odd[below(odd.length)] : below(n);
    }

    private void put(byte[] bytes) {
        for (int i = 0; i < bytes.length; i += 20) {
            int[] n = new int[5];
            for (int j = 0; j < 20; j++) {
                n[j / 4] = n[j / 4] << 8 | (i + j < bytes.length ? bytes[i + j] & 255 : below(256));
            }
            due("feed", model.feed(n[0], n[1], n[2], n[3], n[4]), x.feed(n[0], n[1], n[2], n[3], n[4]));
        }
        due("end", model.end(bytes.length), x.end(bytes.length));
    }

    /** Puts a text, now and then with a change somewhere. */
    private void put(String text) {
        StringBuilder b = new StringBuilder(text);
        if (below(4) == 0) {
            int at = below(b.length() + 1);
            int kind = below(4);
            if (kind == 0 && at < b.length()) {
                b.deleteCharAt(at);
            } else if (kind == 1) {
                b.insert(at, ' ' + WORDS[below(WORDS.length)] + ' ');
            } else if (kind == 2) {
                b.setLength(at);
            } else {
                b.insert(at, (char) (below(2) == 0 ? 32 + below(96) : below(256)));
            }
        }
        if (seldom()) {
            b.insert(below(b.length() + 1), " ".repeat(below(900)));
        }
        if (b.length() > 940) {
            b.setLength(940);
        }
        put(b.toString().getBytes(StandardCharsets.ISO_8859_1));
        run.add("tape: " + b.toString().replaceAll(" {9,}", " .. "));
    }

    private String valleyText() {
        persons = seldom() ? 7 : below(7);
        foods = seldom() ? 5 : below(5);
        meetings = seldom() ? 7 : persons == 0 ? 0 : below(7);
        debts = seldom() ? 11 : persons < 2 ? 0 : below(11);
        int top = new int[] {5, 30, 120, 200}[below(4)];
        List<String> lines = new ArrayList<>();
        for (int p = 0; p < persons; p++) {
            lines.add("person " + PERSONS[p % 6] + " " + below(below(2) == 0 ? 3 : 10) + " " + below(top) + " "
                    + below(below(2) == 0 ? 20 : 999) + ";");
        }
        for (int f = 0; f < foods; f++) {
            lines.add("food " + FOODS[f % 4] + " " + (1 + below(below(2) == 0 ? 9 : 60)) + " " + below(6) + ";");
        }
        for (int m = 0; m < meetings; m++) {
            StringBuilder b = new StringBuilder("meeting " + MEETINGS[m % 6]);
            int crowd = persons == 0 ? 1 : 1 + below((1 << Math.min(6, persons)) - 1);
            for (int p = 0; p < 6; p++) {
                b.append((crowd >> p & 1) != 0 ? " " + PERSONS[p] : "");
            }
            lines.add(b + ";");
        }
        boolean[] told = new boolean[36];
        for (int d = 0; d < debts; d++) {
            int from = below(Math.max(1, Math.min(6, persons)));
            int to = below(Math.max(1, Math.min(6, persons)));
            if (from != to && !told[6 * from + to] || below(60) == 0) {
                told[6 * from + to] = true;
                lines.add("debt " + PERSONS[from] + " " + PERSONS[to] + " " + (1 + below(below(2) == 0 ? 9 : 250)) + " "
                        + below(below(2) == 0 ? 6 : 200) + ";");
            }
        }
        if (below(3) > 0) {
            lines.add(below(lines.size() + 1), "span " + (1 + below(20)) + ";");
        }
        if (below(3) > 0) {
            lines.add(below(lines.size() + 1), "winter " + below(below(2) == 0 ? 10 : 400) + " " + (1 + below(200)) + ";");
        }
        return String.join(below(2) == 0 ? "" : "\n", lines);
    }

    private String bookText() {
        StringBuilder b = new StringBuilder();
        int lines = seldom() ? 38 + below(5) : below(6);
        for (int i = 0; i < lines; i++) {
            String who = PERSONS[below(Math.max(1, Math.min(6, persons)))];
            switch (lines > 20 ? 4 : below(5)) {
                case 0: b.append(who).append(" eats ").append(FOODS[below(Math.max(1, Math.min(4, foods)))]); break;
                case 1: b.append(who).append(" ails"); break;
                case 2: b.append(who).append(" mends"); break;
                case 3: b.append("meet ").append(MEETINGS[below(Math.max(1, Math.min(6, meetings)))]); break;
                default: b.append("hour ").append(1 + below(lines > 20 ? 3 : 60)); break;
            }
            b.append(";");
        }
        return b.toString();
    }

    private String one(int depth) {
        switch (below(depth > 9 ? 6 : 10)) {
            case 0: return "ill";
            case 1: return "owes";
            case 2: return "like " + PERSONS[below(Math.max(1, Math.min(6, persons)))];
            case 3: return "in " + MEETINGS[below(Math.max(1, Math.min(6, meetings)))];
            case 4: return "number" + "<=>".charAt(below(3)) + below(6);
            case 5: return new String[] {"date", "hunger", "coin"}[below(3)] + "<=>".charAt(below(3)) + below(30);
            case 6: case 7: return "not " + one(depth + 1);
            default: return "(" + cond(depth + 1) + ")";
        }
    }

    private String cond(int depth) {
        StringBuilder b = new StringBuilder(one(depth));
        for (int more = below(depth > 2 ? 2 : 5); more > 0; more--) {
            b.append(below(2) == 0 ? " or " : " and ").append(one(depth));
        }
        return b.toString();
    }

    private void step() {
        switch (below(30)) {
            case 0:
                if (below(6) == 0 || model.count(0) == 0) {
                    put(valleyText());
                    due("valley()", model.valley(), x.valley());
                    due("fault()", model.fault, x.fault());
                }
                break;
            case 1: case 2:
                put(bookText());
                int lives = seldom() ? number(2) : below(2);
                due("book(" + lives + ")", model.book(lives), x.book(lives));
                for (int what = -1; what < 5; what++) {
                    due("told(" + what + ")", model.told(what), x.told(what));
                }
                due("fault()", model.fault, x.fault());
                due("end(0)", model.end(0), x.end(0));
                break;
            case 3: case 4:
                put(cond(0));
                due("sentence()", model.sentence(), x.sentence());
                due("fault()", model.fault, x.fault());
                break;
            case 5:
                int k = number(6) - 1;
                due("said(" + k + ")", model.said(k), x.said(k));
                due("said(-1)", model.said(-1), x.said(-1));
                break;
            case 6: case 7:
                table();
                break;
            case 8: case 9:
                put(new byte[] {(byte) below(below(2) == 0 ? 205 : 40), (byte) below(below(2) == 0 ? 205 : 5)});
                if (seldom()) {
                    due("end(1)", model.end(1), x.end(1));
                }
                due("ate()", model.ate(), x.ate());
                due("surely()", model.surely, x.surely());
                due("ask()", model.ask, x.ask());
                break;
            case 10:
                int date = number(below(2) == 0 ? 10 : 200);
                due("on(" + date + ")", model.on(date), x.on(date));
                due("late(" + date + ")", model.late(date), x.late(date));
                due("keeps(" + date + ")", model.keeps(date), x.keeps(date));
                due("common()", model.common(), x.common());
                break;
            case 11:
                if (below(3) == 0) {
                    int place = number(2);
                    due("image(" + place + ")", model.image(place), x.image(place));
                } else if (below(3) == 0) {
                    int place = number(2);
                    due("restore(" + place + ")", model.restore(place), x.restore(place));
                }
                break;
            default:
                smallStep();
                break;
        }
    }

    private void table() {
        int set = number(1 << Math.min(6, model.count(0)));
        while (Integer.bitCount(set) > 4 && below(20) > 0) {
            set &= set - 1;
        }
        due("table(" + set + ")", model.table(set), x.table(set));
        due("feast()", model.feast, x.feast());
        for (int p = -1; p < 7; p++) {
            due("plate(" + p + ")", model.plate(p), x.plate(p));
        }
    }

    private int modelPerson(int p, int what) {
        try {
            return model.person(p, what);
        } catch (NoSuchElementException e) {
            return THROWS;
        }
    }

    private int classPerson(int p, int what) {
        try {
            return x.person(p, what);
        } catch (NoSuchElementException e) {
            return THROWS;
        }
    }

    private int modelDebt(int d, int what) {
        try {
            return model.debt(d, what);
        } catch (NoSuchElementException e) {
            return THROWS;
        }
    }

    private int classDebt(int d, int what) {
        try {
            return x.debt(d, what);
        } catch (NoSuchElementException e) {
            return THROWS;
        }
    }

    private void smallStep() {
        int p = number(model.count(0));
        int q = number(model.count(0));
        int f = number(model.count(1));
        int m = number(model.count(2));
        int d = number(model.count(3));
        int what = number(8);
        int n = number(below(2) == 0 ? 4 : 62);
        int seed = random.nextInt();
        switch (below(20)) {
            case 0: due("person " + p + " " + what, modelPerson(p, what), classPerson(p, what)); break;
            case 1: due("food " + f + " " + what, model.food(f, what), x.food(f, what)); break;
            case 2: due("meeting " + m + " " + what, model.meeting(m, what), x.meeting(m, what)); break;
            case 3: due("debt " + d + " " + what, modelDebt(d, what), classDebt(d, what)); break;
            case 4: due("now " + what, model.now(what), x.now(what)); break;
            case 5: due("count " + what, model.count(what), x.count(what)); break;
            case 6: case 7: due("eat " + p + " " + f, model.eat(p, f), x.eat(p, f)); break;
            case 8: due("ail " + p, model.ail(p), x.ail(p)); break;
            case 9: due("mend " + p, model.mend(p), x.mend(p)); break;
            case 10: due("meet " + m, model.meet(m), x.meet(m)); break;
            case 11: due("hours " + n, model.hours(n), x.hours(n)); break;
            case 12: due("undo", model.undo(), x.undo()); break;
            case 13: due("twins " + p + " " + q, model.twins(p, q), x.twins(p, q)); break;
            case 14: due("share " + n * 16 + " " + p, model.share(n * 16, p), x.share(n * 16, p)); break;
            case 15: due("clash " + (d - 1), model.clash(d - 1), x.clash(d - 1)); break;
            case 16:
                int h = number(below(2) == 0 ? 601 : 60);
                due("later " + p + " " + h, model.later(p, h), x.later(p, h));
                break;
            case 17: due("paid " + d, model.paid(d), x.paid(d)); break;
            case 18:
                if (below(2) == 0) {
                    due("drawn " + n + " " + seed, model.drawn(n, seed), x.drawn(n, seed));
                }
                break;
            default: due("odds " + m + " " + n, model.odds(m, n, seed), x.odds(m, n, seed)); break;
        }
    }
}
