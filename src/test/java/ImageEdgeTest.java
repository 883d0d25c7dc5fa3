/** Edges of promises 38 and 39: places, what is kept, what stays. */
final class ImageEdgeTest {
    private static final int[] ODD = {-1, 2, 3, 32, Integer.MAX_VALUE, Integer.MIN_VALUE};

    public static void main(String[] args) {
        noSuchPlace();
        nothingIsKept();
        allThatIsSoIsKept();
        placesAreApart();
        keptAnew();
        noSentenceKept();
        nothingCanBeUndone();
        whatOtherCallsToldStays();
        Kit.end();
    }

    /** "in place k (0, 1): true; false: no such one". */
    private static void noSuchPlace() {
        HungerDays x = Kit.of(Kit.VALLEY);
        for (int odd : ODD) {
            Kit.due("image(" + odd + ")", false, x.image(odd));
            Kit.due("restore(" + odd + ")", false, x.restore(odd));
        }
        Kit.due("image(0)", true, x.image(0));
        Kit.due("image(1)", true, x.image(1));
        for (int odd : ODD) {
            Kit.due("restore(" + odd + ")", false, x.restore(odd));
        }
        Kit.due("restore(0)", true, x.restore(0));
        Kit.due("restore(1)", true, x.restore(1));
    }

    /** "false: .. or nothing is kept there": all stays, what can be undone, too. */
    private static void nothingIsKept() {
        HungerDays x = Kit.of(Kit.VALLEY);
        x.hours(5);
        Kit.due("restore(0)", false, x.restore(0));
        Kit.due("restore(1)", false, x.restore(1));
        x.image(1);
        Kit.due("restore(0)", false, x.restore(0));
        Kit.due("hour", 5, x.now(0));
        Kit.due("undo", 0, x.undo());
        Kit.due("restore(1)", true, x.restore(1));
        Kit.due("hour", 5, x.now(0));
    }

    /** "VALLEY, all that is so and the SENTENCE are kept": through a full VALLEY, an empty one, another one. */
    private static void allThatIsSoIsKept() {
        HungerDays x = Kit.of(FactsEdgeTest.FULL);
        Kit.sentence(x, "owes and not ill");
        x.eat(0, 0);
        x.meet(1);
        x.ail(3);
        x.hours(7);
        String kept = Kit.seen(x);
        x.image(0);
        x.valley();
        Kit.due("an empty valley", 0, x.count(0));
        x.restore(0);
        Kit.due("as kept", true, kept.equals(Kit.seen(x)));
    }

    /** The two places are kept apart, and a place can be restored again and again. */
    private static void placesAreApart() {
        HungerDays x = Kit.of("span 3;person a 1 0 0;");
        x.hours(1);
        x.image(0);
        Kit.valley(x, "span 4;winter 0 9;person b 1 0 0;person c 1 0 0;food f 1 1;");
        x.hours(2);
        x.image(1);
        for (int i = 0; i < 3; i++) {
            x.restore(0);
            Kit.due("span", 3, x.count(4));
            Kit.due("persons", 1, x.count(0));
            Kit.due("hour", 1, x.now(0));
            Kit.due("no winter", 0, x.now(1));
            Kit.due("hunger", 1, x.person(0, 0));
            Kit.due("names", -1, Kit.book(x, "a ails;", 1));
            x.hours(9);
            x.restore(1);
            Kit.due("span", 4, x.count(4));
            Kit.due("persons", 2, x.count(0));
            Kit.due("hour", 2, x.now(0));
            Kit.due("winter", 1, x.now(1));
            Kit.due("hunger", 4, x.person(0, 0));
            Kit.due("names", -1, Kit.book(x, "c eats f;", 1));
        }
    }

    /** A place that is used again has the later image alone; an empty VALLEY can be kept, too. */
    private static void keptAnew() {
        HungerDays x = new HungerDays();
        Kit.due("an empty valley", true, x.image(0));
        Kit.valley(x, Kit.VALLEY);
        Kit.due("restore", true, x.restore(0));
        Kit.due("nobody", 0, x.count(0));
        Kit.valley(x, Kit.VALLEY);
        x.hours(3);
        x.image(0);
        x.hours(3);
        x.image(0);
        x.hours(3);
        x.restore(0);
        Kit.due("the later one", 6, x.now(0));
    }

    /** That there was no SENTENCE is kept as well; a new VALLEY leaves images as they are. */
    private static void noSentenceKept() {
        HungerDays x = Kit.of(Kit.VALLEY);
        x.image(0);
        Kit.sentence(x, "in mass");
        x.image(1);
        x.restore(0);
        Kit.due("no sentence", -1, x.said(-1));
        Kit.valley(x, "span 5;");
        x.restore(1);
        Kit.due("the sentence", 3, x.said(-1));
        Kit.sentence(x, "ill");
        x.restore(1);
        Kit.due("the sentence again", 3, x.said(-1));
    }

    /** "nothing can be undone": acts behind the restore() can. */
    private static void nothingCanBeUndone() {
        HungerDays x = Kit.of(Kit.VALLEY);
        for (int i = 0; i < 9; i++) {
            x.hours(1);
        }
        x.image(0);
        Kit.due("an image leaves them", 7, x.undo());
        x.restore(0);
        Kit.due("nothing", -1, x.undo());
        Kit.due("hour", 9, x.now(0));
        x.ail(0);
        Kit.due("an act behind it", 0, x.undo());
        Kit.due("nothing more", -1, x.undo());
        Kit.due("hour", 9, x.now(0));
    }

    /** "(the tape, and what other calls told last, stays ..)". */
    private static void whatOtherCallsToldStays() {
        HungerDays x = Kit.of(Kit.VALLEY);
        x.image(0);
        x.table(3);
        Kit.ate(x, 47, 1);
        Kit.book(x, "hour 5;ann mends;", 0);
        Kit.sentence(x, "like 5");
        Kit.put(x, Kit.repeat("x", 940));
        x.restore(0);
        Kit.due("the tape", 940, x.count(5));
        Kit.due("the fault", 1, x.fault());
        Kit.due("the plate", 4, x.plate(1));
        Kit.due("the feast", 2, x.feast());
        Kit.due("surely", 3, x.surely());
        Kit.due("ask", 0, x.ask());
        int[] told = {21, 1, 5, 0};
        for (int what = 0; what < 4; what++) {
            Kit.due("told(" + what + ")", told[what], x.told(what));
        }
    }
}
