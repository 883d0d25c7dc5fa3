/** Promises 1 to 3 and 40: a new object, the tape, counts. */
final class TapeTest {
    public static void main(String[] args) {
        newObject();
        feeding();
        ending();
        counts();
        Kit.end();
    }

    private static void newObject() {
        HungerDays x = new HungerDays();
        for (int what = 0; what < 4; what++) {
            Kit.due("count(" + what + ") of a new object", 0, x.count(what));
        }
        Kit.due("span of a new object", 10, x.count(4));
        Kit.due("tape of a new object", 0, x.count(5));
        for (int what = 0; what < 8; what++) {
            Kit.due("now(" + what + ") of a new object", 0, x.now(what));
        }
        Kit.due("fault of a new object", 0, x.fault());
        Kit.due("NONE", -1, HungerDays.NONE);
        Kit.due("told ahead of any", -1, x.told(0));
        Kit.due("surely ahead of any", -1, x.surely());
        Kit.due("ask ahead of any", -1, x.ask());
        Kit.due("feast ahead of any", -1, x.feast());
        Kit.due("plate ahead of any", -1, x.plate(0));
        Kit.due("said without a sentence", -1, x.said(-1));
        Kit.due("undo without an act", -1, x.undo());
        Kit.due("restore without an image", false, x.restore(0));
        Kit.duePersonThrows(x, 0, 0);
        Kit.dueDebtThrows(x, 0, 0);
    }

    private static void feeding() {
        HungerDays x = new HungerDays();
        for (int i = 1; i <= 47; i++) {
            Kit.due("feed " + i, 20 * i, x.feed(-1, 0, 1, 2, 3));
        }
        Kit.due("feed of a full tape", -1, x.feed(1, 2, 3, 4, 5));
        Kit.due("tape stays", 940, x.count(5));
        Kit.due("end(921)", true, x.end(921));
        Kit.due("feed that would go beyond 940", -1, x.feed(1, 2, 3, 4, 5));
        Kit.due("end(920)", true, x.end(920));
        Kit.due("feed up to 940", 940, x.feed(1, 2, 3, 4, 5));
        HungerDays y = new HungerDays();
        y.feed(0x05000000, 0, 0, 0, 0);
        y.end(2);
        Kit.due("the highest byte comes first", 1, y.ate());
    }

    private static void ending() {
        HungerDays x = new HungerDays();
        Kit.due("end(0) of an empty tape", true, x.end(0));
        Kit.due("end(1) of an empty tape", false, x.end(1));
        x.feed(0, 0, 0, 0, 0);
        Kit.due("end(-1)", false, x.end(-1));
        Kit.due("end(21)", false, x.end(21));
        Kit.due("tape stays", 20, x.count(5));
        Kit.due("end(20)", true, x.end(20));
        Kit.due("end(7)", true, x.end(7));
        Kit.due("tape", 7, x.count(5));
        Kit.due("end(8)", false, x.end(8));
        Kit.due("feed behind 7", 27, x.feed(0, 0, 0, 0, 0));
    }

    private static void counts() {
        HungerDays x = Kit.of(Kit.VALLEY);
        Kit.due("persons", 3, x.count(0));
        Kit.due("foods", 2, x.count(1));
        Kit.due("meetings", 2, x.count(2));
        Kit.due("debts", 2, x.count(3));
        Kit.due("span", 10, x.count(4));
        Kit.due("span told", 7, Kit.of("span 007;").count(4));
        Kit.due("tape", 0, x.count(5));
        Kit.due("count(6)", -1, x.count(6));
        Kit.due("count(-1)", -1, x.count(-1));
    }
}
