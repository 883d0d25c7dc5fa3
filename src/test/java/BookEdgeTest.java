/** Edges of promises 34 to 37: books and sentences. */
final class BookEdgeTest {
    private static final int[] ODD = {-2, 6, 32, Integer.MAX_VALUE, Integer.MIN_VALUE};

    public static void main(String[] args) {
        emptyBook();
        otherLives();
        fortyLines();
        whichLineIsWrong();
        hoursOneToSixty();
        fewerHoursAreLeft();
        judgedAndLived();
        toldOfTheLatest();
        namesOfBooks();
        emptySentence();
        twentyOnes();
        eightWithin();
        comparisons();
        namesOfSentences();
        saidByNumber();
        sentenceStays();
        Kit.end();
    }

    private static void dueTold(HungerDays x, int... want) {
        for (int what = 0; what < 4; what++) {
            Kit.due("told(" + what + ")", want[what], x.told(what));
        }
    }

    /** "{ LINE ; }": a BOOK of no LINES is not WRONG. */
    private static void emptyBook() {
        HungerDays x = Kit.of(Kit.VALLEY);
        x.hours(3);
        for (int lives = 0; lives < 2; lives++) {
            Kit.due("book of no bytes", -1, x.book(lives));
            dueTold(x, 0, 0, 3, 0);
            Kit.due("book of blanks", -1, Kit.book(x, " \n", lives));
            dueTold(x, 0, 0, 3, 0);
        }
        Kit.dueBookFault(";", 0, 1);
        Kit.dueBookFault("hour 1;;", 7, 1);
        Kit.due("a book of an empty valley", -1, Kit.book(new HungerDays(), "hour 1;", 0));
    }

    /** "-1000: another lives (the tape stays)". */
    private static void otherLives() {
        HungerDays x = Kit.of(Kit.VALLEY);
        Kit.put(x, "hour 5;");
        for (int lives : new int[] {-1, 2, 3, Integer.MAX_VALUE, Integer.MIN_VALUE}) {
            Kit.due("book(" + lives + ")", -1000, x.book(lives));
            Kit.due("the tape stays", 7, x.count(5));
            dueTold(x, -1, -1, -1, -1);
            Kit.due("no hour", 0, x.now(0));
        }
        Kit.due("book(0)", -1, x.book(0));
        dueTold(x, 0, 1, 5, 0);
        Kit.due("no hour", 0, x.now(0));
        x.book(2);
        dueTold(x, 0, 1, 5, 0);
    }

    /** "{ LINE ; }, 40 at most"; "4 .. a 41st LINE of a BOOK (at the LINE's first WORD)". */
    private static void fortyLines() {
        for (int lines = 1; lines <= 40; lines++) {
            HungerDays x = Kit.of(Kit.VALLEY);
            Kit.due(lines + " lines", -1, Kit.book(x, Kit.repeat("hour 1;", lines), 0));
            dueTold(x, 0, lines, lines, 0);
        }
        String forty = Kit.repeat("hour 1;", 40);
        Kit.dueBookFault(forty + "hour 1;", 280, 4);
        Kit.dueBookFault(forty + " \n hour", 283, 4);
        Kit.dueBookFault(forty + "meet", 280, 4);
        Kit.dueBookFault(forty + "bob", 280, 4);
        HungerDays y = Kit.of(Kit.VALLEY);
        Kit.book(y, forty + "hour 1;", 1);
        Kit.due("nothing of it is lived", 0, y.now(0));
    }

    /** "the LINE that is WRONG; NONE: none": the first, the last, each. */
    private static void whichLineIsWrong() {
        for (int line = 0; line < 40; line++) {
            HungerDays x = Kit.of(Kit.VALLEY);
            String text = Kit.repeat("hour 1;", line) + "bob mends;" + Kit.repeat("hour 1;", 39 - line);
            Kit.due("the line", line, Kit.book(x, text, line % 2));
            dueTold(x, 21, line, line, 0);
            Kit.due("hour", line % 2 == 1 ? line : 0, x.now(0));
        }
    }

    /** "'hour' N (1 to 60)". */
    private static void hoursOneToSixty() {
        HungerDays x = Kit.of(Kit.VALLEY);
        for (int n = 1; n <= 60; n++) {
            Kit.due("hour " + n, -1, Kit.book(x, "hour " + n + ";", 0));
            Kit.due("the hour then", n, x.told(2));
        }
        Kit.dueBookFault("hour 0;", 5, 2);
        Kit.dueBookFault("hour 61;", 5, 2);
        Kit.dueBookFault("hour 999;", 5, 2);
        Kit.dueBookFault("hour 1000;", 5, 1);
    }

    /** "41: fewer HOURS are left". */
    private static void fewerHoursAreLeft() {
        for (int left = 0; left <= 3; left++) {
            HungerDays x = Kit.of(Kit.VALLEY);
            Kit.goTo(x, 600 - left);
            for (int n = 1; n <= 4; n++) {
                Kit.due("hour " + n + " of " + left, n <= left ? -1 : 0, Kit.book(x, "hour " + n + ";", 0));
                Kit.due("why", n <= left ? 0 : 41, x.told(0));
                Kit.due("the hour then", n <= left ? 600 - left + n : 600 - left, x.told(2));
            }
            Kit.due("wrong", 0, Kit.book(x, "hour 4;hour 1;", 1));
            Kit.due("nothing of it is lived", 600 - left, x.now(0));
        }
        HungerDays y = Kit.of(Kit.VALLEY);
        Kit.due("all hours", -1, Kit.book(y, Kit.repeat("hour 60;", 10), 1));
        Kit.due("hour", 600, y.now(0));
        Kit.due("others may come yet", -1, Kit.book(y, "cid ails;cid mends;", 1));
    }

    /** "it is judged, all staying as it is (lives 0), or lived as far as it is not WRONG (1)". */
    private static void judgedAndLived() {
        String text = "bob eats cheese;meet court;hour 7;cid ails;cid ails;hour 9;";
        HungerDays x = Kit.of(Kit.VALLEY);
        HungerDays twin = Kit.of(Kit.VALLEY);
        Kit.due("judged", 4, Kit.book(x, text, 0));
        dueTold(x, 11, 4, 7, 1);
        for (int what = 0; what < 8; what++) {
            Kit.due("now(" + what + ") stays", twin.now(what), x.now(what));
        }
        Kit.due("nothing to undo", -1, x.undo());
        Kit.due("lived", 4, Kit.book(x, text, 1));
        dueTold(x, 11, 4, 7, 1);
        twin.eat(1, 1);
        twin.meet(0);
        twin.hours(7);
        twin.ail(2);
        Kit.book(twin, "cid mends;hour 1;hour 1;hour 1;hour 1;", 0);
        for (int what = 0; what < 8; what++) {
            Kit.due("now(" + what + ") as by acts", twin.now(what), x.now(what));
        }
        for (int p = 0; p < 3; p++) {
            for (int what = 0; what < 8; what++) {
                Kit.due("person(" + p + ", " + what + ") as by acts", twin.person(p, what), x.person(p, what));
            }
        }
        Kit.due("one act", 0, x.undo());
        Kit.due("hour", 0, x.now(0));
        Kit.due("a book that is wrong at once was lived all the same", 0, Kit.book(x, "ann mends;", 1));
        Kit.due("one act", 0, x.undo());
        Kit.due("none more", -1, x.undo());
    }

    /** "Of the latest book() that had no FAULT (and was not -1000)"; "NONE: another what, or ahead of any". */
    private static void toldOfTheLatest() {
        HungerDays x = Kit.of(Kit.VALLEY + "meeting club cid;");
        dueTold(x, -1, -1, -1, -1);
        Kit.book(x, "?", 0);
        dueTold(x, -1, -1, -1, -1);
        Kit.book(x, "meet club;hour 3;ann eats cheese;bob eats cheese;", 0);
        dueTold(x, 2, 3, 3, 4);
        Kit.book(x, "hour 5;hour 0;", 1);
        dueTold(x, 2, 3, 3, 4);
        x.book(7);
        dueTold(x, 2, 3, 3, 4);
        for (int odd : ODD) {
            Kit.due("told(" + odd + ")", -1, x.told(odd));
        }
        Kit.due("told(4)", -1, x.told(4));
        Kit.due("told(-1)", -1, x.told(-1));
        x.valley();
        dueTold(x, 2, 3, 3, 4);
        x.book(1);
        dueTold(x, 0, 0, 0, 0);
    }

    /** "3 a NAME .. not told, or of another sort": in a BOOK. */
    private static void namesOfBooks() {
        Kit.dueBookFault("x ails;", 0, 3);
        Kit.dueBookFault("bread ails;", 0, 3);
        Kit.dueBookFault("court ails;", 0, 3);
        Kit.dueBookFault("ann eats x;", 9, 3);
        Kit.dueBookFault("ann eats ann;", 9, 3);
        Kit.dueBookFault("ann eats court;", 9, 3);
        Kit.dueBookFault("meet x;", 5, 3);
        Kit.dueBookFault("meet ann;", 5, 3);
        Kit.dueBookFault("meet bread;", 5, 3);
        Kit.dueBookFault("meet meet;", 5, 1);
        Kit.dueBookFault("ann eats eats;", 9, 1);
        Kit.dueBookFault("ann eats 5;", 9, 1);
        Kit.dueBookFault("ann ails bread;", 9, 1);
        Kit.dueBookFault("ann mends bread;", 10, 1);
        Kit.dueBookFault("ann meet court;", 4, 1);
        Kit.dueBookFault("ann hour 5;", 4, 1);
        Kit.dueBookFault("ann x;", 4, 1);
        HungerDays x = Kit.of("person abcdefg 0 0 0;");
        Kit.due("a name of seven letters", -1, Kit.book(x, "abcdefg ails;", 0));
        Kit.due("six of them", -2, Kit.book(x, "abcdef ails;", 0));
        Kit.due("fault", 3, x.fault());
    }

    /** "A SENTENCE is .. COND": one ONE at least. */
    private static void emptySentence() {
        Kit.dueSentenceFault("", 0, 1);
        Kit.dueSentenceFault(" \n ", 3, 1);
        Kit.dueSentenceFault("()", 1, 1);
        Kit.dueSentenceFault("( )", 2, 1);
        Kit.dueSentenceFault("not()", 4, 1);
        Kit.dueSentenceFault("ill or", 6, 1);
        Kit.dueSentenceFault("ill and", 7, 1);
        Kit.dueSentenceFault("ill or or ill", 7, 1);
        Kit.dueSentenceFault("ill not ill", 4, 1);
        Kit.dueSentenceFault("(ill) ill", 6, 1);
        Kit.dueSentenceFault("(ill))", 5, 1);
    }

    /** "20 ONES"; "how many ONES (each not, bracket and other one)". */
    private static void twentyOnes() {
        HungerDays x = Kit.of(Kit.VALLEY);
        for (int ones = 1; ones <= 20; ones++) {
            Kit.due(ones + " ones", ones, Kit.sentence(x, Kit.repeat("owes or ", ones - 1) + "owes"));
            Kit.due("of two", 2, x.said(-1));
            Kit.due(ones + " ones", ones, Kit.sentence(x, Kit.repeat("owes and ", ones - 1) + "owes"));
            Kit.due("of two", 2, x.said(-1));
        }
        Kit.due("nots and brackets are ones", 20, Kit.sentence(x, Kit.repeat("not(ill)or ", 6) + "not ill"));
        Kit.due("of all", 3, x.said(-1));
        Kit.dueSentenceFault(Kit.repeat("not(ill)or ", 6) + "not(ill)", 70, 4);
        Kit.dueSentenceFault(Kit.repeat("not(ill)or ", 6) + "not not not", 74, 4);
        Kit.dueSentenceFault(Kit.repeat("owes or ", 20) + "owes", 160, 4);
        Kit.dueSentenceFault(Kit.repeat("owes or ", 19) + "(owes)", 153, 4);
        Kit.dueSentenceFault(Kit.repeat("owes or ", 19) + "not owes", 156, 4);
        Kit.dueSentenceFault(Kit.repeat("owes or ", 20) + "like x", 160, 4);
    }

    /** "8 within one another": nots, brackets, both; what is beside is not within. */
    private static void eightWithin() {
        HungerDays x = Kit.of(Kit.VALLEY);
        for (int within = 1; within <= 8; within++) {
            Kit.due("nots", within, Kit.sentence(x, Kit.repeat("not ", within - 1) + "owes"));
            Kit.due("of", within % 2 == 1 ? 2 : 1, x.said(-1));
            Kit.due("brackets", within, Kit.sentence(x, Kit.repeat("(", within - 1) + "owes" + Kit.repeat(")", within - 1)));
            Kit.due("of", 2, x.said(-1));
        }
        Kit.dueSentenceFault(Kit.repeat("not ", 8) + "owes", 32, 4);
        Kit.dueSentenceFault(Kit.repeat("not ", 8) + "not", 32, 4);
        Kit.dueSentenceFault(Kit.repeat("(", 8) + "owes", 8, 4);
        Kit.dueSentenceFault(Kit.repeat("(", 9), 8, 4);
        Kit.dueSentenceFault("not(not(not(not(owes))))", 16, 4);
        Kit.due("both in turn", 8, Kit.sentence(x, "not(not(not(not owes)))"));
        Kit.due("eight twice, beside one another", 18, Kit.sentence(x, "(((((((owes)))))))and(((((((owes)))))))and ill and ill"));
        Kit.due("behind a bracket the way is free again", 12, Kit.sentence(x, "((ill)or(ill)or((((((owes)))))))"));
        Kit.dueSentenceFault("(((((((owes)))))))and((((((((owes", 29, 4);
    }

    /** "SIGN: < = >", "NUMBER": one below, the same, one above; 0 and 999. */
    private static void comparisons() {
        HungerDays x = Kit.of("person a 0 25 0;person b 0 47 10;person c 0 9 999;");
        String[] texts = {"hunger<25", "hunger=25", "hunger>25", "hunger<26", "hunger>24", "date<2", "date=2", "date>2",
            "coin<10", "coin=10", "coin>10", "coin=0", "coin>0", "coin<0", "coin=999", "coin<999", "coin>999", "number=0",
            "number<1", "number>1", "number=2", "number=3", "number>999", "hunger<999", "date<1", "date=0", "date<5"};
        int[] want = {4, 1, 2, 5, 3, 4, 1, 2, 1, 2, 4, 1, 6, 0, 4, 3, 0, 1, 1, 4, 4, 0, 0, 7, 4, 4, 7};
        for (int i = 0; i < texts.length; i++) {
            Kit.due(texts[i], 1, Kit.sentence(x, texts[i]));
            Kit.due("persons of " + texts[i], Integer.bitCount(want[i]), x.said(-1));
            int first = want[i] == 0 ? -1 : Integer.numberOfTrailingZeros(want[i]);
            Kit.due("the first of " + texts[i], first, x.said(0));
        }
        Kit.dueSentenceFault("date", 4, 1);
        Kit.dueSentenceFault("date<", 5, 1);
        Kit.dueSentenceFault("date<>5", 5, 1);
        Kit.dueSentenceFault("date 5", 5, 1);
        Kit.dueSentenceFault("date<ann", 5, 1);
        Kit.dueSentenceFault("date<1000", 5, 1);
        Kit.dueSentenceFault("5<date", 0, 1);
    }

    /** "3 a NAME .. not told, or of another sort": in a SENTENCE. */
    private static void namesOfSentences() {
        Kit.dueSentenceFault("like x", 5, 3);
        Kit.dueSentenceFault("like bread", 5, 3);
        Kit.dueSentenceFault("like court", 5, 3);
        Kit.dueSentenceFault("like like", 5, 1);
        Kit.dueSentenceFault("in x", 3, 3);
        Kit.dueSentenceFault("in ann", 3, 3);
        Kit.dueSentenceFault("in cheese", 3, 3);
        Kit.dueSentenceFault("in in", 3, 1);
        Kit.dueSentenceFault("in (", 3, 1);
        HungerDays x = Kit.of(FactsEdgeTest.FULL);
        Kit.due("like the last", 1, Kit.sentence(x, "like f"));
        Kit.due("he is like himself", 2, x.said(-1));
        Kit.due("in the last", 1, Kit.sentence(x, "in p"));
        Kit.due("three", 3, x.said(-1));
        Kit.due("the third", 5, x.said(2));
    }

    /** "how many (k NONE), or the k-th. NONE: there is no SENTENCE, none such". */
    private static void saidByNumber() {
        HungerDays x = Kit.of(FactsEdgeTest.FULL);
        Kit.due("no sentence", -1, x.said(-1));
        Kit.due("no sentence", -1, x.said(0));
        Kit.sentence(x, "not ill");
        Kit.due("all six", 6, x.said(-1));
        for (int k = 0; k < 6; k++) {
            Kit.due("said(" + k + ")", k, x.said(k));
        }
        for (int odd : ODD) {
            Kit.due("said(" + odd + ")", -1, x.said(odd));
        }
        Kit.sentence(x, "ill");
        Kit.due("nobody", 0, x.said(-1));
        Kit.due("none such", -1, x.said(0));
        x.ail(5);
        Kit.due("it is said of what is so now", 1, x.said(-1));
        Kit.due("the last", 5, x.said(0));
        Kit.due("none such", -1, x.said(1));
        x.undo();
        Kit.due("nobody again", 0, x.said(-1));
        Kit.sentence(x, "owes");
        Kit.due("all owe", 6, x.said(-1));
        x.hours(1);
        Kit.due("a and b owe no more", 4, x.said(-1));
        HungerDays y = Kit.of("person a 0 0 1;person b 0 0 0;debt a b 1 0;");
        Kit.sentence(y, "owes");
        Kit.due("a debt of 1", 1, y.said(-1));
    }

    /** "-1 less the place of a FAULT: it stays". */
    private static void sentenceStays() {
        HungerDays x = Kit.of(Kit.VALLEY);
        Kit.due("a fault", -1, Kit.sentence(x, "?"));
        Kit.due("there is none yet", -1, x.said(-1));
        Kit.sentence(x, "in court");
        Kit.due("a fault at the end", -11, Kit.sentence(x, "not ill or"));
        Kit.due("it stays", 2, x.said(-1));
        Kit.due("the second", 1, x.said(1));
        Kit.valley(x, "?");
        Kit.due("it stays by a valley with a fault", 2, x.said(-1));
        Kit.valley(x, Kit.VALLEY);
        Kit.due("it is gone with a new valley, be it the same", -1, x.said(-1));
    }
}
