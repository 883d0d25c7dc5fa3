/** Promises 38 and 39: images and what they leave. */
final class ImageTest {
    public static void main(String[] args) {
        places();
        all();
        leaves();
        Kit.end();
    }

    private static void places() {
        HungerDays x = new HungerDays();
        Kit.due("restore(0)", false, x.restore(0));
        Kit.due("restore(2)", false, x.restore(2));
        Kit.due("restore(-1)", false, x.restore(-1));
        Kit.due("image(2)", false, x.image(2));
        Kit.due("image(-1)", false, x.image(-1));
        Kit.due("image(1)", true, x.image(1));
        Kit.due("restore(0)", false, x.restore(0));
        Kit.valley(x, Kit.VALLEY);
        Kit.due("image(0)", true, x.image(0));
        Kit.due("restore(1)", true, x.restore(1));
        Kit.due("empty valley", 0, x.count(0));
        Kit.due("restore(0)", true, x.restore(0));
        Kit.due("valley", 3, x.count(0));
        Kit.due("restore(0) again", true, x.restore(0));
    }

    private static void all() {
        HungerDays x = Kit.of(Kit.VALLEY);
        Kit.sentence(x, "owes or in mass");
        x.eat(1, 1);
        x.meet(0);
        x.ail(2);
        x.hours(3);
        x.image(0);
        Kit.valley(x, "span 3;person a 1 1 1;food f 1 1;");
        Kit.sentence(x, "ill");
        x.restore(0);
        Kit.due("hour", 3, x.now(0));
        Kit.due("ill", 4, x.now(2));
        Kit.due("held", 1, x.now(3));
        Kit.due("paid", 1, x.now(4));
        Kit.due("portions", 2, x.now(6));
        Kit.due("hunger", 36, x.person(1, 0));
        Kit.due("eaten", 1, x.person(1, 4));
        Kit.due("coin", 18, x.person(0, 3));
        Kit.due("span", 10, x.count(4));
        Kit.due("sentence", 3, x.said(-1));
        Kit.due("names", -1, Kit.book(x, "cid mends;ann eats bread;", 0));
        x.hours(3);
        Kit.due("winter", 1, x.now(1));
        x.restore(0);
        Kit.due("an image stays", 3, x.now(0));
        HungerDays y = Kit.of(Kit.VALLEY);
        y.image(1);
        Kit.sentence(y, "ill");
        y.restore(1);
        Kit.due("no sentence was kept", -1, y.said(-1));
    }

    private static void leaves() {
        HungerDays x = Kit.of(Kit.VALLEY);
        x.hours(1);
        x.image(0);
        Kit.due("an image leaves what can be undone", 0, x.undo());
        x.hours(1);
        x.table(3);
        Kit.ate(x, 47, 1);
        Kit.book(x, "hour 5;", 0);
        Kit.book(x, "?", 0);
        Kit.put(x, "abc");
        x.restore(0);
        Kit.due("nothing can be undone", -1, x.undo());
        Kit.due("the tape stays", 3, x.count(5));
        Kit.due("the fault stays", 1, x.fault());
        Kit.due("told stays", 6, x.told(2));
        Kit.due("the plate stays", 5, x.plate(1));
        Kit.due("the feast stays", 2, x.feast());
        Kit.due("surely stays", 3, x.surely());
        Kit.due("ask stays", 0, x.ask());
    }
}
