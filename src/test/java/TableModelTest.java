import java.util.Random;

/** Promises 19 to 21 once more: tables with scarce stores, compared with a search through all plates. */
final class TableModelTest {
    public static void main(String[] args) {
        Random random = new Random(7);
        improving();
        int found = 0;
        for (int i = 0; i < 4000; i++) {
            found += compare(scarce(random)) ? 1 : 0;
        }
        Kit.due("many tables can be laid", true, found > 1000);
        Kit.end();
    }

    /** A later date takes more portions, an earlier one fewer of the same store. */
    private static void improving() {
        HungerDays x = Kit.of("span 1;person a 0 10 0;person b 0 4 0;food f 2 3;food g 8 1;");
        Kit.due("fewer portions by an earlier date", 2, x.table(3));
        Kit.due("date", 2, x.feast());
        Kit.due("plate of a", 4, x.plate(0));
        Kit.due("plate of b", 1, x.plate(1));
    }

    private static String scarce(Random random) {
        int span = 1 + random.nextInt(4);
        StringBuilder b = new StringBuilder("span " + span + ";");
        int persons = 2 + random.nextInt(5);
        int foods = 1 + random.nextInt(4);
        int top = 4 + random.nextInt(12);
        for (int p = 0; p < persons; p++) {
            b.append("person ").append((char) ('a' + p)).append(" 0 ").append(random.nextInt(top)).append(" 0;");
        }
        for (int f = 0; f < foods; f++) {
            b.append("food ").append((char) ('p' + f)).append(' ').append(1 + random.nextInt(6)).append(' ')
                    .append(random.nextInt(persons > 4 ? 3 : 5)).append(';');
        }
        return b.toString();
    }

    private static boolean compare(String valley) {
        HungerDays x = Kit.of(valley);
        Model model = new Model();
        model.tape = valley.getBytes();
        model.valley();
        int set = (1 << x.count(0)) - 1;
        int want = model.table(set);
        Kit.due("table of " + valley, want, x.table(set));
        Kit.due("feast of " + valley, model.feast, x.feast());
        for (int p = 0; p < x.count(0); p++) {
            Kit.due("plate " + p + " of " + valley, model.plate(p), x.plate(p));
        }
        return want > 0;
    }
}
