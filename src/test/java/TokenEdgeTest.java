/** Edges of the terms 'TOKENS of all texts' and 'FAULTS': each test says the words that it holds to. */
final class TokenEdgeTest {
    private static final String SIX = "person a 0 0 0;person b 0 0 0;person c 0 0 0;"
            + "person d 0 0 0;person e 0 0 0;person f 0 0 0;";

    public static void main(String[] args) {
        blanksAre32And10();
        wordsAreSmallLetters();
        wordsHaveOneToSevenLetters();
        numbersAreDigits();
        numbersHaveOneToThreeDigits();
        runsGoOnThroughLettersAndDigits();
        signs();
        faultAtTheEnd();
        faultBeyondTheMostBytes();
        tokensAheadOfTheMostAreReadWhole();
        firstAlongTheText();
        ofOneTokenTheLeast();
        Kit.end();
    }

    private static boolean isLetter(int c) {
        return c >= 'a' && c <= 'z';
    }

    private static boolean isDigit(int c) {
        return c >= '0' && c <= '9';
    }

    /** "with blanks (32, 10) between them or not": each of the 256 bytes between a WORD and a NUMBER. */
    private static void blanksAre32And10() {
        for (int c = 0; c < 256; c++) {
            String text = "span" + (char) c + "5;";
            if (c == 32 || c == 10) {
                Kit.due("blank " + c, 1, Kit.valley(new HungerDays(), text));
            } else {
                Kit.dueValleyFault(text, isLetter(c) || isDigit(c) ? 0 : 4, 1);
            }
        }
        HungerDays x = new HungerDays();
        Kit.due("no blanks where none need be", 3, Kit.valley(x, "span 5;person a 0 0 0;meeting m a;"));
        Kit.due("blanks ahead, behind, many", 1, Kit.valley(x, " \n\n  span \n 5\n ; \n"));
        Kit.due("no blanks in a sentence", 4, Kit.sentence(x, "not(date<5)and ill"));
        Kit.due("blanks about all of it", 4, Kit.sentence(x, "\nnot\n(\ndate\n<\n5\n)\nand\nill\n"));
    }

    /** "WORDS: small letters": each of the 256 bytes as a NAME. */
    private static void wordsAreSmallLetters() {
        for (int c = 0; c < 256; c++) {
            String text = "person " + (char) c + " 1 2 3;";
            if (isLetter(c)) {
                HungerDays x = Kit.of(text);
                Kit.due("person of name " + c, 1, x.count(0));
                Kit.due("book with name " + c, -1, Kit.book(x, (char) c + " ails;", 0));
            } else {
                Kit.dueValleyFault(text, c == 32 || c == 10 ? 9 : 7, 1);
            }
        }
    }

    /** "WORDS: small letters, 1 to 7". */
    private static void wordsHaveOneToSevenLetters() {
        for (int letters = 1; letters <= 7; letters++) {
            HungerDays x = Kit.of("person " + Kit.repeat("z", letters) + " 1 2 3;");
            Kit.due("name of " + letters, -1, Kit.book(x, Kit.repeat("z", letters) + " ails;", 0));
            Kit.due("a letter less or more is another name", 1, Kit.valley(x, "person "
                    + Kit.repeat("z", letters % 7 + 1) + " 1 2 3;"));
            Kit.due("it is not told", -2, Kit.book(x, Kit.repeat("z", letters) + " ails;", 0));
            Kit.due("fault", 3, x.fault());
        }
        Kit.dueValleyFault("person zzzzzzzz 1 2 3;", 7, 1);
        Kit.dueValleyFault("person " + Kit.repeat("z", 40) + " 1 2 3;", 7, 1);
        Kit.dueBookFault("abcdefgh ails;", 0, 1);
        Kit.dueSentenceFault("like abcdefgh", 5, 1);
    }

    /** "NUMBERS: .. digits": each of the 256 bytes as a NUMBER. */
    private static void numbersAreDigits() {
        for (int c = 0; c < 256; c++) {
            String text = "span 1;food f 1 1;person a " + (char) c + " 1 1;";
            if (isDigit(c)) {
                Kit.due("digit", c - '0', Kit.of(text).person(0, 5));
            } else {
                Kit.dueValleyFault(text, c == 32 || c == 10 ? 32 : 27, 1);
            }
        }
    }

    /** "NUMBERS: 1 to 3 digits": zeros ahead count as digits. */
    private static void numbersHaveOneToThreeDigits() {
        Kit.due("one digit", 7, Kit.of("span 7;").count(4));
        Kit.due("two digits", 7, Kit.of("span 07;").count(4));
        Kit.due("three digits", 7, Kit.of("span 007;").count(4));
        Kit.dueValleyFault("span 0007;", 5, 1);
        Kit.dueValleyFault("span 1000;", 5, 1);
        Kit.dueValleyFault("span 4294967301;", 5, 1);
        Kit.dueBookFault("hour 0001;", 5, 1);
        Kit.dueSentenceFault("coin < 1000", 7, 1);
        Kit.dueSentenceFault("coin < 0000", 7, 1);
        HungerDays x = Kit.of(Kit.VALLEY);
        Kit.due("000 to 999", 2, Kit.sentence(x, "coin > 000 and coin < 999"));
    }

    /** "A WORD, NUMBER goes on as long as small letters and digits do; what is not as told is no TOKEN". */
    private static void runsGoOnThroughLettersAndDigits() {
        Kit.dueValleyFault("span5;", 0, 1);
        Kit.dueValleyFault("span 5a;", 5, 1);
        Kit.dueValleyFault("span 5span 6;", 5, 1);
        Kit.dueValleyFault("span 5 ;food7 a 1 1;", 8, 1);
        Kit.dueValleyFault("person a1 0 0 0;", 7, 1);
        Kit.dueValleyFault("person 1a 0 0 0;", 7, 1);
        Kit.dueValleyFault("person ab 00 00z 0;", 13, 1);
        Kit.dueValleyFault("person a 1 2 3food b 1 1;", 13, 1);
        Kit.dueBookFault("hour1;", 0, 1);
        Kit.dueBookFault("annails;", 0, 3);
        Kit.dueSentenceFault("notill", 0, 1);
        Kit.dueSentenceFault("date<5and ill", 5, 1);
        Kit.dueSentenceFault("illor owes", 0, 1);
    }

    /** "; < = > ( )": TOKENS, but none that can come everywhere; other signs are none. */
    private static void signs() {
        for (int c = 33; c < 127; c++) {
            if (!isLetter(c) && !isDigit(c)) {
                Kit.dueSentenceFault("ill " + (char) c, 4, 1);
                Kit.dueBookFault("hour 1;" + (char) c, 7, 1);
                Kit.dueValleyFault("span 5;" + (char) c, 7, 1);
                if (c == '<' || c == '=' || c == '>') {
                    Kit.due("a sign " + c, 1, Kit.sentence(Kit.of(Kit.VALLEY), "date" + (char) c + "5"));
                } else {
                    Kit.dueSentenceFault("date" + (char) c + "5", 4, 1);
                }
                if (c == ';') {
                    Kit.due("a line's end", 2, Kit.valley(new HungerDays(), "span 5" + (char) c + "winter 0 1;"));
                } else {
                    Kit.dueValleyFault("span 5" + (char) c + "winter 0 1;", 6, 1);
                }
            }
        }
    }

    /** "the end: how many bytes there are": blanks are bytes, too. */
    private static void faultAtTheEnd() {
        String line = "person a 0 0 0;";
        for (int size = 1; size < line.length(); size++) {
            if (size != 1) {
                Kit.dueValleyFault("span 1;" + line.substring(0, size), size < 6 ? 7 : 7 + size, 1);
            }
        }
        Kit.dueValleyFault("span 5 \n ", 9, 1);
        Kit.dueBookFault("ann", 3, 1);
        Kit.dueBookFault("ann eats", 8, 1);
        Kit.dueBookFault("ann eats bread", 14, 1);
        Kit.dueBookFault("ann ails", 8, 1);
        Kit.dueBookFault("meet\n", 5, 1);
        Kit.dueBookFault("hour", 4, 1);
        Kit.dueBookFault("hour 60", 7, 1);
        Kit.dueSentenceFault("", 0, 1);
        Kit.dueSentenceFault("\n", 1, 1);
        Kit.dueSentenceFault("not", 3, 1);
        Kit.dueSentenceFault("(ill ", 5, 1);
        Kit.dueSentenceFault("ill and", 7, 1);
        Kit.dueSentenceFault("like ", 5, 1);
        Kit.dueSentenceFault("date", 4, 1);
        Kit.dueSentenceFault("date >", 6, 1);
    }

    /** "the most bytes told, if there are more and no FAULT is ahead". */
    private static void faultBeyondTheMostBytes() {
        HungerDays x = new HungerDays();
        Kit.due("a valley of 900 bytes", 1, Kit.valley(x, Kit.repeat(" ", 892) + "span 05;"));
        Kit.due("900 blanks", 0, Kit.valley(x, Kit.repeat("\n", 900)));
        Kit.dueValleyFault(Kit.repeat(" ", 901), 900, 1);
        Kit.dueValleyFault(Kit.repeat(" ", 940), 900, 1);
        Kit.dueValleyFault("span 5;" + Kit.repeat(" ", 893) + "winter 0 1;", 900, 1);
        Kit.dueValleyFault("span 0;" + Kit.repeat(" ", 933), 5, 2);
        Kit.dueValleyFault("span 5" + Kit.repeat(" ", 934), 900, 1);
        HungerDays y = Kit.of(Kit.VALLEY);
        Kit.due("a book of 400 bytes", -1, Kit.book(y, Kit.repeat(" ", 392) + "hour 05;", 0));
        Kit.dueBookFault(Kit.repeat(" ", 401), 400, 1);
        Kit.dueBookFault("hour 1;" + Kit.repeat(" ", 933), 400, 1);
        Kit.dueBookFault("hour 0;" + Kit.repeat(" ", 933), 5, 2);
        Kit.due("a sentence of 200 bytes", 1, Kit.sentence(y, Kit.repeat(" ", 197) + "ill"));
        Kit.dueSentenceFault(Kit.repeat(" ", 198) + "ill", 200, 1);
        Kit.dueSentenceFault(Kit.repeat(" ", 201), 200, 1);
        Kit.dueSentenceFault(Kit.repeat(" ", 200) + "ill", 200, 1);
        Kit.dueSentenceFault("ill" + Kit.repeat(" ", 937), 200, 1);
        Kit.dueSentenceFault("like x" + Kit.repeat(" ", 934), 5, 3);
    }

    /** "TOKENS that begin ahead of it are read whole". */
    private static void tokensAheadOfTheMostAreReadWhole() {
        Kit.dueValleyFault(Kit.repeat(" ", 894) + "span 21;", 899, 2);
        Kit.dueValleyFault(Kit.repeat(" ", 894) + "span 20;", 900, 1);
        Kit.dueValleyFault(Kit.repeat(" ", 894) + "span 2000;", 899, 1);
        Kit.dueValleyFault(Kit.repeat(" ", 895) + "span 21;", 900, 1);
        Kit.dueValleyFault(Kit.repeat(" ", 899) + "spanner;", 899, 1);
        Kit.dueValleyFault(Kit.repeat(" ", 892) + "person zzzzzzz 1 1 1;", 900, 1);
        Kit.dueValleyFault(Kit.repeat(" ", 892) + "person zzzzzzzz 1 1 1;", 899, 1);
        Kit.dueValleyFault(Kit.repeat(" ", 892) + "person number 1 1 1;", 899, 1);
        Kit.dueValleyFault("food zzz 1 1;" + Kit.repeat(" ", 879) + "person zzz 1 1 1;", 899, 3);
        Kit.dueBookFault(Kit.repeat(" ", 394) + "hour 61;", 399, 2);
        Kit.dueBookFault(Kit.repeat(" ", 394) + "hour 60;", 400, 1);
        Kit.dueBookFault(Kit.repeat(" ", 399) + "anna ails;", 399, 3);
        Kit.dueBookFault(Kit.repeat(" ", 399) + "ann ails;", 400, 1);
        Kit.dueSentenceFault(Kit.repeat(" ", 199) + "illness", 199, 1);
        Kit.dueSentenceFault(Kit.repeat(" ", 199) + "ill", 200, 1);
        Kit.dueSentenceFault(Kit.repeat(" ", 196) + "in masses", 199, 3);
        Kit.dueSentenceFault(Kit.repeat(" ", 196) + "in mass", 200, 1);
    }

    /** "FAULTS, the first along the text": what comes behind is of no matter, less kinds neither. */
    private static void firstAlongTheText() {
        Kit.dueValleyFault("span 21;?", 5, 2);
        Kit.dueValleyFault("span 5;span ?", 7, 3);
        Kit.dueValleyFault("food a 0 6;", 7, 2);
        Kit.dueValleyFault("meeting m x ?;", 10, 3);
        Kit.dueValleyFault(SIX + "person ? 10 200;", 90, 4);
        Kit.dueValleyFault("? " + SIX + "person", 0, 1);
        Kit.dueBookFault("x eats ?;", 0, 3);
        Kit.dueBookFault("hour 61 ?", 5, 2);
        Kit.dueSentenceFault("like x ?", 5, 3);
        Kit.dueSentenceFault("like x or like y", 5, 3);
    }

    /** "of one TOKEN the least". */
    private static void ofOneTokenTheLeast() {
        String forty = Kit.repeat("hour 1;", 40);
        Kit.dueBookFault(forty + "ann", 280, 4);
        Kit.dueBookFault(forty + "bread", 280, 3);
        Kit.dueBookFault(forty + "eats", 280, 1);
        Kit.dueBookFault(forty + "17", 280, 1);
        Kit.dueBookFault(forty + ";", 280, 1);
        Kit.dueBookFault(forty + "abcdefgh", 280, 1);
        String twenty = Kit.repeat("ill or ", 20);
        Kit.dueSentenceFault(twenty + "ill", 140, 4);
        Kit.dueSentenceFault(twenty + "not", 140, 4);
        Kit.dueSentenceFault(twenty + "like", 140, 4);
        Kit.dueSentenceFault(twenty + "(", 140, 4);
        Kit.dueSentenceFault(twenty + ")", 140, 1);
        Kit.dueSentenceFault(twenty + "or", 140, 1);
        Kit.dueSentenceFault(twenty + "ann", 140, 1);
        Kit.dueSentenceFault(twenty, 140, 1);
        Kit.dueSentenceFault("((((((((" + ")", 8, 1);
        Kit.dueSentenceFault("((((((((" + "5", 8, 1);
        Kit.dueSentenceFault("((((((((" + "date", 8, 4);
        Kit.dueValleyFault(SIX + "debt a a 0 200;", 97, 3);
        Kit.dueValleyFault(SIX + "debt a g 0 200;", 97, 3);
    }
}
