/** Promises 32 and 33: hours by draws, odds. */
final class DrawTest {
    public static void main(String[] args) {
        wrongInputs();
        byHand();
        edges();
        odds();
        Kit.end();
    }

    private static void wrongInputs() {
        HungerDays x = Kit.of(Kit.VALLEY);
        Kit.due("drawn(0, 1)", -1, x.drawn(0, 1));
        Kit.due("drawn(61, 1)", -1, x.drawn(61, 1));
        Kit.due("odds(2, 1, 1)", -1, x.odds(2, 1, 1));
        Kit.due("odds(-1, 1, 1)", -1, x.odds(-1, 1, 1));
        Kit.due("odds(0, 0, 1)", -1, x.odds(0, 0, 1));
        Kit.due("odds(0, 31, 1)", -1, x.odds(0, 31, 1));
        HungerDays y = Kit.of("person a 1 1 1;meeting m a;");
        Kit.due("no foods", -1, y.drawn(1, 1));
        Kit.due("no foods", -1, y.odds(0, 1, 1));
        Kit.due("hour stays", 0, y.now(0));
    }

    /** Draws worked out beside the class, for one person and two foods. */
    private static void byHand() {
        for (int seed = -40; seed < 40; seed++) {
            HungerDays x = Kit.of("person a 3 50 0;food f 7 2;food g 9 5;meeting m a;");
            Kit.due("drawn(30)", 30, x.drawn(30, seed));
            int draw = seed;
            int hunger = 50;
            boolean ill = false;
            int[] left = {2, 5};
            int held = -1;
            for (int hour = 0; hour < 30; hour++) {
                draw = draw * 1103515245 + 12345;
                int act = (draw >>> 8) % 8;
                if (act == 0) {
                    draw = draw * 1103515245 + 12345;
                    int f = (draw >>> 8) % 2;
                    if (!ill && left[f] > 0 && hunger > 0) {
                        left[f]--;
                        hunger = Math.max(0, hunger - (f == 0 ? 7 : 9));
                    }
                } else if (act == 1) {
                    ill = !ill;
                }
                if (!ill && held < 0) {
                    held = hour;
                }
                if (!ill) {
                    hunger = Math.min(199, hunger + 3);
                }
            }
            Kit.due("hunger by seed " + seed, hunger, x.person(0, 0));
            Kit.due("ill by seed " + seed, ill ? 1 : 0, x.person(0, 2));
            Kit.due("left by seed " + seed, left[0], x.food(0, 1));
            Kit.due("left by seed " + seed, left[1], x.food(1, 1));
            Kit.due("held by seed " + seed, held, x.meeting(0, 1));
        }
    }

    private static void edges() {
        HungerDays x = Kit.of("food f 1 1;");
        for (int i = 0; i < 9; i++) {
            Kit.due("drawn(60)", 60, x.drawn(60, i));
        }
        Kit.due("drawn(50)", 50, x.drawn(50, 3));
        Kit.due("the last hours", 10, x.drawn(60, 3));
        Kit.due("no more", 0, x.drawn(60, 3));
        x.undo();
        Kit.due("no hours are no act", 590, x.now(0));
    }

    /** The two are of one date in some hour about the twentieth alone, later ones by who was ill. */
    private static void oddsAtTheEdge(HungerDays x) {
        int want = 0;
        for (int i = 0; i < 30; i++) {
            x.drawn(20, 100 + i);
            want += x.meeting(0, 1) == -1 ? 0 : 1;
            x.undo();
        }
        Kit.due("odds of 20 hours", want, x.odds(0, 30, 100));
    }

    private static void odds() {
        HungerDays x = Kit.of(Kit.VALLEY);
        for (int seed : new int[] {5, Integer.MAX_VALUE - 2, -3}) {
            int want = 0;
            for (int i = 0; i < 30; i++) {
                x.drawn(20, seed + i);
                want += x.meeting(0, 1) == -1 ? 0 : 1;
                x.undo();
            }
            Kit.due("odds(0, 30, " + seed + ")", want, x.odds(0, 30, seed));
        }
        for (int hunger = 12; hunger < 24; hunger++) {
            oddsAtTheEdge(Kit.of("span 1;person a 1 0 0;person b 0 " + hunger + " 0;meeting m a b;food f 1 0;"));
        }
        HungerDays y = Kit.of("person a 0 0 0;meeting m a;food f 1 1;");
        y.meet(0);
        Kit.due("held already", 30, y.odds(0, 30, 1));
        HungerDays z = Kit.of("person a 0 0 0;person b 0 99 0;meeting m a b;food f 1 1;");
        Kit.due("never held", 0, z.odds(0, 30, 1));
        Kit.due("hour stays", 0, z.now(0));
    }
}
