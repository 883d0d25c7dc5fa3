/** Promises 36 and 37: sentences, their faults, of whom they may be said. */
final class SentenceTest {
    public static void main(String[] args) {
        meanings();
        binding();
        picking();
        faults();
        limits();
        Kit.end();
    }

    private static void dueSaid(HungerDays x, String text, int ones, int bits) {
        Kit.due("ones of " + text, ones, Kit.sentence(x, text));
        Kit.due("fault of " + text, 0, x.fault());
        int got = 0;
        for (int k = 0; x.said(k) != -1; k++) {
            got |= 1 << x.said(k);
        }
        Kit.due("persons of " + text, bits, got);
        Kit.due("how many of " + text, Integer.bitCount(bits), x.said(-1));
    }

    private static void meanings() {
        HungerDays x = Kit.of(Kit.VALLEY);
        dueSaid(x, "ill", 1, 0);
        dueSaid(x, "not ill", 2, 7);
        x.ail(1);
        dueSaid(x, "ill", 1, 2);
        dueSaid(x, "owes", 1, 3);
        dueSaid(x, "like ann", 1, 1);
        dueSaid(x, "in court", 1, 3);
        dueSaid(x, "in mass", 1, 7);
        dueSaid(x, "date=2", 1, 1);
        dueSaid(x, "date < 4", 1, 5);
        dueSaid(x, "date>2", 1, 2);
        dueSaid(x, "hunger>9", 1, 3);
        dueSaid(x, "hunger=9", 1, 4);
        dueSaid(x, "coin<30", 1, 6);
        dueSaid(x, "coin=030", 1, 1);
        dueSaid(x, "number>0", 1, 6);
        dueSaid(x, "number=999", 1, 0);
        x.mend(1);
        x.hours(3);
        dueSaid(x, "owes", 1, 0);
        HungerDays y = Kit.of("person a 0 19 0;person b 0 10 0;person c 0 20 0;");
        dueSaid(y, "like a", 1, 3);
    }

    private static void binding() {
        HungerDays x = Kit.of(Kit.VALLEY);
        dueSaid(x, "number=0 or number=1 and number=2", 3, 1);
        dueSaid(x, "number=1 and number=2 or number=0", 3, 1);
        dueSaid(x, "(number=0 or number=1) and number>0", 4, 2);
        dueSaid(x, "not number=0 and not number=1", 4, 4);
        dueSaid(x, "not(number=0 or number=1)", 4, 4);
        dueSaid(x, "not not number=0", 3, 1);
        dueSaid(x, "number=0 or number=1 or number=2", 3, 7);
        dueSaid(x, "number>0 and number<2 and not ill", 4, 2);
        dueSaid(x, "number=0 and ill or number=1 and not ill or ill", 6, 2);
        dueSaid(x, "((number=1))", 3, 2);
        dueSaid(x, "number=2 or not(ill or(number=0 and date>1))", 7, 6);
    }

    private static void picking() {
        HungerDays x = Kit.of(Kit.VALLEY);
        Kit.sentence(x, "in court");
        Kit.due("said(0)", 0, x.said(0));
        Kit.due("said(1)", 1, x.said(1));
        Kit.due("said(2)", -1, x.said(2));
        Kit.due("said(-2)", -1, x.said(-2));
        Kit.due("a fault", -1, Kit.sentence(x, ""));
        Kit.due("it stays", 2, x.said(-1));
        Kit.valley(x, "x");
        Kit.due("it stays with the valley", 2, x.said(-1));
    }

    private static void faults() {
        Kit.dueSentenceFault("", 0, 1);
        Kit.dueSentenceFault("  ", 2, 1);
        Kit.dueSentenceFault("ann", 0, 1);
        Kit.dueSentenceFault("eats", 0, 1);
        Kit.dueSentenceFault("or", 0, 1);
        Kit.dueSentenceFault("5", 0, 1);
        Kit.dueSentenceFault(")", 0, 1);
        Kit.dueSentenceFault("ill;", 3, 1);
        Kit.dueSentenceFault("ill ill", 4, 1);
        Kit.dueSentenceFault("ill or", 6, 1);
        Kit.dueSentenceFault("ill and or", 8, 1);
        Kit.dueSentenceFault("ill)", 3, 1);
        Kit.dueSentenceFault("(ill", 4, 1);
        Kit.dueSentenceFault("()", 1, 1);
        Kit.dueSentenceFault("not", 3, 1);
        Kit.dueSentenceFault("like bread", 5, 3);
        Kit.dueSentenceFault("like x", 5, 3);
        Kit.dueSentenceFault("like ill", 5, 1);
        Kit.dueSentenceFault("like 5", 5, 1);
        Kit.dueSentenceFault("in ann", 3, 3);
        Kit.dueSentenceFault("in", 2, 1);
        Kit.dueSentenceFault("date 5", 5, 1);
        Kit.dueSentenceFault("date < x", 7, 1);
        Kit.dueSentenceFault("date <= 5", 6, 1);
        Kit.dueSentenceFault("date = 1000", 7, 1);
        Kit.dueSentenceFault("date ( 5", 5, 1);
    }

    private static void limits() {
        HungerDays x = Kit.of(Kit.VALLEY);
        dueSaid(x, Kit.repeat("ill or ", 19) + "owes", 20, 3);
        dueSaid(x, Kit.repeat("owes and ", 19) + "owes", 20, 3);
        Kit.dueSentenceFault(Kit.repeat("ill or ", 20) + "owes", 140, 4);
        Kit.dueSentenceFault(Kit.repeat("ill or ", 20) + "x", 140, 1);
        Kit.dueSentenceFault(Kit.repeat("ill or ", 20) + "(?", 140, 4);
        dueSaid(x, Kit.repeat("not ", 7) + "owes", 8, 4);
        Kit.dueSentenceFault(Kit.repeat("not ", 8) + "owes", 32, 4);
        Kit.dueSentenceFault(Kit.repeat("not ", 8) + "ann", 32, 1);
        dueSaid(x, Kit.repeat("(", 7) + "owes" + Kit.repeat(")", 7), 8, 3);
        Kit.dueSentenceFault(Kit.repeat("(", 9), 8, 4);
        Kit.dueSentenceFault("ill or " + Kit.repeat("(not ", 4) + "ill", 27, 4);
        dueSaid(x, "owes" + Kit.repeat(" ", 196), 1, 3);
        Kit.dueSentenceFault("owes" + Kit.repeat(" ", 197), 200, 1);
        Kit.dueSentenceFault(Kit.repeat(" ", 196) + "owes or ill", 200, 1);
        Kit.dueSentenceFault(Kit.repeat(" ", 199) + "ann", 199, 1);
        Kit.dueSentenceFault(Kit.repeat(" ", 194) + "like annnnnnnnnn", 199, 1);
        Kit.dueSentenceFault(Kit.repeat(" ", 194) + "like anna", 199, 3);
        Kit.dueSentenceFault(Kit.repeat(" ", 194) + "like ann", 200, 1);
    }
}
