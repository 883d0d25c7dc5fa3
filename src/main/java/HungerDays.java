import java.util.NoSuchElementException;

/** A valley of people whose date is how hungry they are; ../shared/DOC.md says what each call does. */
public final class HungerDays {
    public static final int NONE = -1;

    private static final int PERSONS = 6;
    private static final int FOODS = 4;
    private static final int MEETINGS = 6;
    private static final int DEBTS = 10;
    private static final int PORTIONS = 20;
    private static final int HOURS = 600;
    private static final int AHEAD = 200;
    private static final int DATES = 200;
    private static final int MOST_HUNGER = 199;
    private static final int IMAGES = 2;

    private static final int TAPE_BYTES = 940;
    private static final int VALLEY_BYTES = 900;
    private static final int BOOK_BYTES = 400;
    private static final int SENTENCE_BYTES = 200;

    private static final int NO_TOKEN = 1;
    private static final int WRONG_NUMBER = 2;
    private static final int WRONG_NAME = 3;
    private static final int TOO_MANY = 4;

    private static final int PERSON = 0;
    private static final int FOOD = 1;
    private static final int MEETING = 2;

    // The numbers below are the places of the words in this text; each word ends with a blank.
    private static final String WORDS =
            "span winter person food meeting debt eats ails mends meet hour or and not ill owes like in date hunger coin number ";
    private static final int WORD_COUNT = 22;
    private static final int SPAN_WORD = 0;
    private static final int WINTER_WORD = 1;
    private static final int PERSON_WORD = 2;
    private static final int FOOD_WORD = 3;
    private static final int MEETING_WORD = 4;
    private static final int DEBT_WORD = 5;
    private static final int EATS_WORD = 6;
    private static final int AILS_WORD = 7;
    private static final int MENDS_WORD = 8;
    private static final int MEET_WORD = 9;
    private static final int HOUR_WORD = 10;
    private static final int OR_WORD = 11;
    private static final int AND_WORD = 12;
    private static final int NOT_WORD = 13;
    private static final int ILL_WORD = 14;
    private static final int OWES_WORD = 15;
    private static final int LIKE_WORD = 16;
    private static final int IN_WORD = 17;
    private static final int DATE_WORD = 18;
    private static final int HUNGER_WORD = 19;
    private static final int COIN_WORD = 20;
    private static final int NUMBER_WORD = 21;

    private final int[] tape = new int[TAPE_BYTES];
    private int tapeSize;
    private final Reader reader = new Reader(tape);
    private int faultKind;

    private final Valley valley = new Valley();
    private final Valley spareValley = new Valley();
    private final ValleyText valleyText = new ValleyText(reader, spareValley);
    private final State state = new State(valley);
    private final State trial = new State(valley);
    private final History history = new History(valley);
    private final Image[] images = new Image[IMAGES];

    private final Sentence sentence = new Sentence();
    private final Sentence spareSentence = new Sentence();
    private final Book book = new Book(reader, valley);
    private final Draws draws = new Draws();
    private final Table table = new Table();
    private final Plates ateFrom = new Plates();

    public HungerDays() {
        for (int k = 0; k < IMAGES; k++) {
            images[k] = new Image();
        }
    }

    // ---- the tape ----

    public int feed(int a, int b, int c, int d, int e) {
        if (tapeSize + 20 > TAPE_BYTES) {
            return NONE;
        }
        putNumber(a);
        putNumber(b);
        putNumber(c);
        putNumber(d);
        putNumber(e);
        return tapeSize;
    }

    private void putNumber(int number) {
        for (int shift = 24; shift >= 0; shift -= 8) {
            tape[tapeSize] = (number >>> shift) & 255;
            tapeSize++;
        }
    }

    public boolean end(int n) {
        if (n < 0 || n > tapeSize) {
            return false;
        }
        tapeSize = n;
        return true;
    }

    private void openTape(int mostBytes) {
        reader.open(tapeSize, mostBytes);
        tapeSize = 0;
    }

    // ---- the valley ----

    public int valley() {
        openTape(VALLEY_BYTES);
        int lines = valleyText.readAll();
        faultKind = reader.faultKind;
        if (lines == NONE) {
            return -1 - reader.faultPlace;
        }
        valley.copyFrom(spareValley);
        state.begin();
        sentence.forget();
        history.forget();
        return lines;
    }

    public int fault() {
        return faultKind;
    }

    private boolean isPerson(int p) {
        return p >= 0 && p < valley.persons;
    }

    private boolean isFood(int f) {
        return f >= 0 && f < valley.foods;
    }

    private boolean isMeeting(int m) {
        return m >= 0 && m < valley.meetings;
    }

    private boolean isDebt(int d) {
        return d >= 0 && d < valley.debts;
    }

    private static boolean isDate(int date) {
        return date >= 0 && date < DATES;
    }

    // ---- what is so ----

    public int person(int p, int what) throws NoSuchElementException {
        if (!isPerson(p)) {
            throw new NoSuchElementException("no such person");
        }
        switch (what) {
            case 0: return state.hunger[p];
            case 1: return state.dateOf(p);
            case 2: return state.isIll(p) ? 1 : 0;
            case 3: return state.coin[p];
            case 4: return state.eaten[p];
            case 5: return valley.grows[p];
            case 6: return valley.meetingsOf(p);
            case 7: return state.owedBy(p);
            default: throw new NoSuchElementException("nothing such of a person");
        }
    }

    public int food(int f, int what) {
        if (!isFood(f)) {
            return NONE;
        }
        switch (what) {
            case 0: return valley.fills[f];
            case 1: return state.left[f];
            default: return NONE;
        }
    }

    public int meeting(int m, int what) {
        if (!isMeeting(m)) {
            return NONE;
        }
        switch (what) {
            case 0: return valley.crowd[m];
            case 1: return state.heldAt[m];
            case 2: return state.whyNotMeet(m);
            case 3: return state.unlikeDates(valley.crowd[m]);
            default: return NONE;
        }
    }

    public int debt(int d, int what) throws NoSuchElementException {
        if (!isDebt(d)) {
            throw new NoSuchElementException("no such debt");
        }
        switch (what) {
            case 0: return valley.debtor[d];
            case 1: return valley.creditor[d];
            case 2: return valley.amount[d];
            case 3: return valley.dueDate[d];
            case 4: return state.paidAt[d];
            case 5: return state.isDue(d) ? 1 : 0;
            default: throw new NoSuchElementException("nothing such of a debt");
        }
    }

    public int now(int what) {
        switch (what) {
            case 0: return state.hour;
            case 1: return valley.isWinter(state.hour) ? 1 : 0;
            case 2: return state.ill;
            case 3: return state.heldMeetings();
            case 4: return state.paidDebts();
            case 5: return sumOf(state.coin, valley.persons);
            case 6: return sumOf(state.left, valley.foods);
            case 7: return state.unpaidHours;
            default: return NONE;
        }
    }

    private static int sumOf(int[] row, int length) {
        int sum = 0;
        for (int i = 0; i < length && i < row.length; i++) {
            sum += row[i];
        }
        return sum;
    }

    public int count(int what) {
        switch (what) {
            case 0: return valley.persons;
            case 1: return valley.foods;
            case 2: return valley.meetings;
            case 3: return valley.debts;
            case 4: return valley.span;
            case 5: return tapeSize;
            default: return NONE;
        }
    }

    // ---- acts ----

    public int eat(int p, int f) {
        if (!isPerson(p) || !isFood(f)) {
            return NONE;
        }
        int why = state.whyNotEat(p, f);
        if (why == 0) {
            history.keep(state);
            state.takePortion(p, f);
        }
        return why;
    }

    public int ail(int p) {
        if (!isPerson(p)) {
            return NONE;
        }
        int why = state.whyNotAil(p);
        if (why == 0) {
            history.keep(state);
            state.turnHealth(p);
        }
        return why;
    }

    public int mend(int p) {
        if (!isPerson(p)) {
            return NONE;
        }
        int why = state.whyNotMend(p);
        if (why == 0) {
            history.keep(state);
            state.turnHealth(p);
        }
        return why;
    }

    public int meet(int m) {
        if (!isMeeting(m)) {
            return NONE;
        }
        int why = state.whyNotMeet(m);
        if (why == 0) {
            history.keep(state);
            state.hold(m);
        }
        return why;
    }

    public int hours(int n) {
        if (n < 1 || n > 60) {
            return NONE;
        }
        if (state.isOver()) {
            return 0;
        }
        history.keep(state);
        return state.passHours(n);
    }

    public int undo() {
        return history.goBack(state) ? history.size : NONE;
    }

    // ---- dates, tables, plates ----

    public int on(int date) {
        return isDate(date) ? state.personsOf(date) : NONE;
    }

    public int common() {
        int best = NONE;
        int most = 0;
        for (int p = 0; p < valley.persons; p++) {
            int date = state.dateOf(p);
            int many = Integer.bitCount(state.personsOf(date));
            if (many > most || many == most && date < best) {
                most = many;
                best = date;
            }
        }
        return best;
    }

    public int table(int set) {
        if (set < 0 || set >= 1 << valley.persons || (set & state.ill) != 0) {
            return NONE;
        }
        return table.lay(state, set);
    }

    public int plate(int p) {
        return isPerson(p) ? table.plateOf(p) : NONE;
    }

    public int feast() {
        return table.date;
    }

    public int ate() {
        int size = tapeSize;
        tapeSize = 0;
        if (size != 2 || tape[0] > MOST_HUNGER) {
            return NONE;
        }
        return ateFrom.guess(valley, tape[0], tape[1]);
    }

    public int surely() {
        return ateFrom.inEach;
    }

    public int ask() {
        return ateFrom.tellsMost;
    }

    // ---- what will be ----

    public int twins(int p, int q) {
        if (!isPerson(p) || !isPerson(q) || p == q) {
            return NONE;
        }
        trial.copyFrom(state);
        for (int gone = 0; gone <= AHEAD; gone++) {
            if (trial.dateOf(p) == trial.dateOf(q)) {
                return trial.hour;
            }
            if (trial.isOver()) {
                return NONE;
            }
            trial.passHour();
        }
        return NONE;
    }

    public int late(int date) {
        if (!isDate(date) || valley.persons == 0) {
            return NONE;
        }
        trial.copyFrom(state);
        for (int gone = 0; gone <= AHEAD; gone++) {
            if (trial.allHave(date)) {
                return trial.hour;
            }
            if (trial.isOver()) {
                return NONE;
            }
            trial.passHour();
        }
        return NONE;
    }

    public int share(int w, int p) {
        if (w < 0 || w > 999 || !isPerson(p) || state.isIll(p)) {
            return NONE;
        }
        return state.partOf(w, p);
    }

    public int clash(int k) {
        int found = 0;
        for (int d = 0; d < valley.debts; d++) {
            if (state.isClash(d)) {
                found |= 1 << d;
            }
        }
        return howManyOrWhich(found, k);
    }

    public int keeps(int date) {
        if (date < 1 || !isDate(date)) {
            return NONE;
        }
        trial.copyFrom(state);
        for (int gone = 0; gone < AHEAD; gone++) {
            if (!trial.eatBelow(date) || trial.isOver()) {
                return gone;
            }
            trial.passHour();
        }
        return AHEAD;
    }

    public int later(int p, int h) {
        if (!isPerson(p) || h < state.hour || h > HOURS) {
            return NONE;
        }
        trial.copyFrom(state);
        trial.passHours(h - state.hour);
        return trial.dateOf(p);
    }

    public int paid(int d) {
        if (!isDebt(d) || state.paidAt[d] != NONE) {
            return NONE;
        }
        trial.copyFrom(state);
        for (int gone = 0; gone < HOURS && !trial.isOver(); gone++) {
            trial.passHour();
            if (trial.paidAt[d] != NONE) {
                return trial.paidAt[d];
            }
        }
        return NONE;
    }

    // ---- draws ----

    public int drawn(int n, int seed) {
        if (n < 1 || n > 60 || valley.foods == 0) {
            return NONE;
        }
        if (state.isOver()) {
            return 0;
        }
        history.keep(state);
        return draws.passHours(state, n, seed);
    }

    public int odds(int m, int n, int seed) {
        if (!isMeeting(m) || n < 1 || n > 30 || valley.foods == 0) {
            return NONE;
        }
        int held = 0;
        for (int i = 0; i < n; i++) {
            trial.copyFrom(state);
            draws.passHours(trial, 20, seed + i);
            if (trial.heldAt[m] != NONE) {
                held++;
            }
        }
        return held;
    }

    // ---- books and sentences ----

    public int book(int lives) {
        if (lives != 0 && lives != 1) {
            return -1000;
        }
        openTape(BOOK_BYTES);
        boolean good = book.readAll();
        faultKind = reader.faultKind;
        if (!good) {
            return -2 - reader.faultPlace;
        }
        if (lives == 1) {
            history.keep(state);
            return book.live(state);
        }
        trial.copyFrom(state);
        return book.live(trial);
    }

    public int told(int what) {
        switch (what) {
            case 0: return book.whyWrong;
            case 1: return book.goodLines;
            case 2: return book.hourThen;
            case 3: return book.heldThen;
            default: return NONE;
        }
    }

    public int sentence() {
        openTape(SENTENCE_BYTES);
        boolean good = spareSentence.readAll(reader, valley);
        faultKind = reader.faultKind;
        if (!good) {
            return -1 - reader.faultPlace;
        }
        sentence.copyFrom(spareSentence);
        return sentence.ones;
    }

    public int said(int k) {
        return sentence.ones == 0 ? NONE : howManyOrWhich(sentence.trueOf(state), k);
    }

    private static int howManyOrWhich(int bits, int k) {
        if (k == NONE) {
            return Integer.bitCount(bits);
        }
        int rest = k;
        for (int i = 0; i < 32 && rest >= 0; i++) {
            if ((bits >>> i & 1) == 0) {
                continue;
            }
            if (rest == 0) {
                return i;
            }
            rest--;
        }
        return NONE;
    }

    // ---- images ----

    private static boolean isImage(int k) {
        return k >= 0 && k < IMAGES;
    }

    public boolean image(int k) {
        if (!isImage(k)) {
            return false;
        }
        Image kept = images[k];
        kept.valley.copyFrom(valley);
        kept.state.copyFrom(state);
        kept.sentence.copyFrom(sentence);
        kept.isKept = true;
        return true;
    }

    public boolean restore(int k) {
        if (!isImage(k) || !images[k].isKept) {
            return false;
        }
        Image kept = images[k];
        valley.copyFrom(kept.valley);
        state.copyFrom(kept.state);
        sentence.copyFrom(kept.sentence);
        history.forget();
        return true;
    }

    /** Takes a text apart into tokens, one ahead at a time, and keeps its first fault. */
    private static final class Reader {
        static final int END = 0;
        static final int BAD = 1;
        static final int WORD = 2;
        static final int NUMBER = 3;
        static final int SIGN = 4;

        final int[] bytes;
        final long[] words = new long[WORD_COUNT];
        int size;
        int mostBytes;
        int at;
        int kind;
        int start;
        long word;
        int keyword;
        int number;
        int sign;
        int faultKind;
        int faultPlace;

        Reader(int[] bytes) {
            this.bytes = bytes;
            int k = 0;
            long code = 0;
            for (int i = 0; i < WORDS.length() && k < WORD_COUNT; i++) {
                char c = WORDS.charAt(i);
                if (c == ' ') {
                    words[k] = code;
                    k++;
                    code = 0;
                } else {
                    code = code * 32 + (c - 'a' + 1);
                }
            }
        }

        void open(int textSize, int mostBytesTold) {
            size = Math.min(textSize, bytes.length);
            mostBytes = mostBytesTold;
            at = 0;
            faultKind = 0;
            faultPlace = 0;
            next();
        }

        /** The first fault stays, and nothing is taken behind it. */
        boolean refuse(int why) {
            if (faultKind == 0) {
                faultKind = why;
                faultPlace = start;
            }
            return false;
        }

        boolean isGood() {
            return faultKind == 0;
        }

        void next() {
            int stop = Math.min(size, mostBytes);
            while (at < stop && (bytes[at] == ' ' || bytes[at] == '\n')) {
                at++;
            }
            keyword = NONE;
            if (at >= stop) {
                start = stop;
                kind = END;
                return;
            }
            start = at;
            int c = bytes[at];
            if (c >= 'a' && c <= 'z' || c >= '0' && c <= '9') {
                readRun();
                return;
            }
            at++;
            sign = c;
            kind = c == ';' || c == '(' || c == ')' || c >= '<' && c <= '>' ? SIGN : BAD;
        }

        /** A run goes on beyond the most bytes, since a token that begins ahead of them is read whole. */
        private void readRun() {
            int letters = 0;
            int digits = 0;
            word = 0;
            number = 0;
            for (; at < size; at++) {
                int c = bytes[at];
                if (c >= 'a' && c <= 'z') {
                    letters++;
                    word = word * 32 + (c - 'a' + 1);
                } else if (c >= '0' && c <= '9') {
                    digits++;
                    number = number * 10 + (c - '0');
                } else {
                    break;
                }
            }
            if (digits > 0 || letters > 7) {
                kind = letters == 0 && digits <= 3 ? NUMBER : BAD;
                return;
            }
            kind = WORD;
            for (int k = 0; k < WORD_COUNT; k++) {
                if (words[k] == word) {
                    keyword = k;
                }
            }
        }

        boolean isName() {
            return kind == WORD && keyword == NONE;
        }

        boolean isSign(int c) {
            return kind == SIGN && sign == c;
        }

        /** The text ends here: it may have no bytes beyond the most, blanks neither. */
        boolean closes() {
            return kind == END && size <= mostBytes || refuse(NO_TOKEN);
        }

        boolean takeSign(int c) {
            if (!isSign(c)) {
                return refuse(NO_TOKEN);
            }
            next();
            return true;
        }

        int takeNumber(int least, int greatest) {
            if (kind != NUMBER) {
                refuse(NO_TOKEN);
            } else if (number < least || number > greatest) {
                refuse(WRONG_NUMBER);
            }
            if (!isGood()) {
                return NONE;
            }
            int taken = number;
            next();
            return taken;
        }

        /** Whose name the token is; it stays the token, for what else may be wrong with it. */
        int lookNamed(Valley valley, int sort) {
            if (!isName()) {
                refuse(NO_TOKEN);
                return NONE;
            }
            int found = valley.numberOf(sort, word);
            if (found == NONE) {
                refuse(WRONG_NAME);
            }
            return isGood() ? found : NONE;
        }

        int takeNamed(Valley valley, int sort) {
            int found = lookNamed(valley, sort);
            if (found != NONE) {
                next();
            }
            return found;
        }
    }

    /** What a valley's text tells, none of which changes as hours go by. */
    private static final class Valley {
        int span = 10;
        int winterFrom;
        int winterLong;
        int persons;
        int foods;
        int meetings;
        int debts;
        final long[] personNames = new long[PERSONS];
        final long[] foodNames = new long[FOODS];
        final long[] meetingNames = new long[MEETINGS];
        final int[] grows = new int[PERSONS];
        final int[] hunger = new int[PERSONS];
        final int[] coin = new int[PERSONS];
        final int[] fills = new int[FOODS];
        final int[] store = new int[FOODS];
        final int[] crowd = new int[MEETINGS];
        final int[] debtor = new int[DEBTS];
        final int[] creditor = new int[DEBTS];
        final int[] amount = new int[DEBTS];
        final int[] dueDate = new int[DEBTS];

        void clear() {
            span = 10;
            winterFrom = 0;
            winterLong = 0;
            persons = 0;
            foods = 0;
            meetings = 0;
            debts = 0;
        }

        void copyFrom(Valley other) {
            span = other.span;
            winterFrom = other.winterFrom;
            winterLong = other.winterLong;
            persons = other.persons;
            foods = other.foods;
            meetings = other.meetings;
            debts = other.debts;
            System.arraycopy(other.personNames, 0, personNames, 0, PERSONS);
            System.arraycopy(other.foodNames, 0, foodNames, 0, FOODS);
            System.arraycopy(other.meetingNames, 0, meetingNames, 0, MEETINGS);
            System.arraycopy(other.grows, 0, grows, 0, PERSONS);
            System.arraycopy(other.hunger, 0, hunger, 0, PERSONS);
            System.arraycopy(other.coin, 0, coin, 0, PERSONS);
            System.arraycopy(other.fills, 0, fills, 0, FOODS);
            System.arraycopy(other.store, 0, store, 0, FOODS);
            System.arraycopy(other.crowd, 0, crowd, 0, MEETINGS);
            System.arraycopy(other.debtor, 0, debtor, 0, DEBTS);
            System.arraycopy(other.creditor, 0, creditor, 0, DEBTS);
            System.arraycopy(other.amount, 0, amount, 0, DEBTS);
            System.arraycopy(other.dueDate, 0, dueDate, 0, DEBTS);
        }

        boolean isWinter(int hour) {
            return hour >= winterFrom && hour < winterFrom + winterLong;
        }

        int meetingsOf(int p) {
            int bits = 0;
            for (int m = 0; m < meetings; m++) {
                bits |= (crowd[m] >> p & 1) << m;
            }
            return bits;
        }

        boolean hasDebt(int from, int to) {
            for (int d = 0; d < debts; d++) {
                if (debtor[d] == from && creditor[d] == to) {
                    return true;
                }
            }
            return false;
        }

        int numberOf(int sort, long name) {
            long[] names = sort == PERSON ? personNames : sort == FOOD ? foodNames : meetingNames;
            int told = sort == PERSON ? persons : sort == FOOD ? foods : meetings;
            for (int i = 0; i < told && i < names.length; i++) {
                if (names[i] == name) {
                    return i;
                }
            }
            return NONE;
        }

        boolean hasName(long name) {
            return numberOf(PERSON, name) != NONE || numberOf(FOOD, name) != NONE
                    || numberOf(MEETING, name) != NONE;
        }
    }

    /** Reads the text of a valley into a spare one, so that a fault leaves the valley as it is. */
    private static final class ValleyText {
        final Reader reader;
        final Valley valley;
        boolean spanTold;
        boolean winterTold;

        ValleyText(Reader reader, Valley valley) {
            this.reader = reader;
            this.valley = valley;
        }

        int readAll() {
            valley.clear();
            spanTold = false;
            winterTold = false;
            for (int lines = 0; lines <= VALLEY_BYTES; lines++) {
                if (reader.kind == Reader.END) {
                    return reader.closes() ? lines : NONE;
                }
                if (!readLine() || !reader.takeSign(';')) {
                    return NONE;
                }
            }
            return NONE;
        }

        private boolean readLine() {
            switch (reader.keyword) {
                case SPAN_WORD: return readSpan();
                case WINTER_WORD: return readWinter();
                case PERSON_WORD: return readPerson();
                case FOOD_WORD: return readFood();
                case MEETING_WORD: return readMeeting();
                case DEBT_WORD: return readDebt();
                default: return reader.refuse(NO_TOKEN);
            }
        }

        private boolean readSpan() {
            if (spanTold) {
                return reader.refuse(WRONG_NAME);
            }
            spanTold = true;
            reader.next();
            valley.span = reader.takeNumber(1, 20);
            return reader.isGood();
        }

        private boolean readWinter() {
            if (winterTold) {
                return reader.refuse(WRONG_NAME);
            }
            winterTold = true;
            reader.next();
            valley.winterFrom = reader.takeNumber(0, 399);
            valley.winterLong = reader.takeNumber(1, 200);
            return reader.isGood();
        }

        private boolean readPerson() {
            int p = valley.persons;
            if (p >= PERSONS) {
                return reader.refuse(TOO_MANY);
            }
            reader.next();
            valley.personNames[p] = takeNewName();
            valley.grows[p] = reader.takeNumber(0, 9);
            valley.hunger[p] = reader.takeNumber(0, MOST_HUNGER);
            valley.coin[p] = reader.takeNumber(0, 999);
            valley.persons = p + 1;
            return reader.isGood();
        }

        private boolean readFood() {
            int f = valley.foods;
            if (f >= FOODS) {
                return reader.refuse(TOO_MANY);
            }
            reader.next();
            valley.foodNames[f] = takeNewName();
            valley.fills[f] = reader.takeNumber(1, 60);
            valley.store[f] = reader.takeNumber(0, 5);
            valley.foods = f + 1;
            return reader.isGood();
        }

        private boolean readMeeting() {
            int m = valley.meetings;
            if (m >= MEETINGS) {
                return reader.refuse(TOO_MANY);
            }
            reader.next();
            valley.meetingNames[m] = takeNewName();
            int crowd = 0;
            for (int i = 0; i <= PERSONS && (crowd == 0 || !reader.isSign(';')); i++) {
                int p = reader.lookNamed(valley, PERSON);
                if (p == NONE || (crowd >> p & 1) != 0) {
                    return reader.refuse(WRONG_NAME);
                }
                crowd |= 1 << p;
                reader.next();
            }
            valley.crowd[m] = crowd;
            valley.meetings = m + 1;
            return true;
        }

        private boolean readDebt() {
            int d = valley.debts;
            if (d >= DEBTS) {
                return reader.refuse(TOO_MANY);
            }
            reader.next();
            int from = reader.takeNamed(valley, PERSON);
            int to = reader.lookNamed(valley, PERSON);
            if (from == NONE || to == NONE || to == from || valley.hasDebt(from, to)) {
                return reader.refuse(WRONG_NAME);
            }
            reader.next();
            valley.debtor[d] = from;
            valley.creditor[d] = to;
            valley.amount[d] = reader.takeNumber(1, 250);
            valley.dueDate[d] = reader.takeNumber(0, DATES - 1);
            valley.debts = d + 1;
            return reader.isGood();
        }

        private long takeNewName() {
            if (!reader.isName()) {
                reader.refuse(NO_TOKEN);
            } else if (valley.hasName(reader.word)) {
                reader.refuse(WRONG_NAME);
            }
            if (!reader.isGood()) {
                return NONE;
            }
            long taken = reader.word;
            reader.next();
            return taken;
        }
    }

    /** All that is so in a valley at some hour, and the rules by which it becomes otherwise. */
    private static final class State {
        final Valley valley;
        int hour;
        int ill;
        int unpaidHours;
        final int[] hunger = new int[PERSONS];
        final int[] coin = new int[PERSONS];
        final int[] eaten = new int[PERSONS];
        final int[] left = new int[FOODS];
        final int[] heldAt = new int[MEETINGS];
        final int[] paidAt = new int[DEBTS];

        State(Valley valley) {
            this.valley = valley;
        }

        void begin() {
            hour = 0;
            ill = 0;
            unpaidHours = 0;
            for (int p = 0; p < PERSONS; p++) {
                hunger[p] = valley.hunger[p];
                coin[p] = valley.coin[p];
                eaten[p] = 0;
            }
            for (int f = 0; f < FOODS; f++) {
                left[f] = valley.store[f];
            }
            for (int m = 0; m < MEETINGS; m++) {
                heldAt[m] = NONE;
            }
            for (int d = 0; d < DEBTS; d++) {
                paidAt[d] = NONE;
            }
        }

        void copyFrom(State other) {
            hour = other.hour;
            ill = other.ill;
            unpaidHours = other.unpaidHours;
            System.arraycopy(other.hunger, 0, hunger, 0, PERSONS);
            System.arraycopy(other.coin, 0, coin, 0, PERSONS);
            System.arraycopy(other.eaten, 0, eaten, 0, PERSONS);
            System.arraycopy(other.left, 0, left, 0, FOODS);
            System.arraycopy(other.heldAt, 0, heldAt, 0, MEETINGS);
            System.arraycopy(other.paidAt, 0, paidAt, 0, DEBTS);
        }

        int dateOf(int p) {
            return valley.span > 0 ? hunger[p] / valley.span : 0;
        }

        boolean isIll(int p) {
            return (ill >> p & 1) != 0;
        }

        boolean isOver() {
            return hour >= HOURS;
        }

        int personsOf(int date) {
            int bits = 0;
            for (int p = 0; p < valley.persons; p++) {
                if (dateOf(p) == date) {
                    bits |= 1 << p;
                }
            }
            return bits;
        }

        boolean allHave(int date) {
            for (int p = 0; p < valley.persons; p++) {
                if (dateOf(p) < date) {
                    return false;
                }
            }
            return true;
        }

        int owedBy(int p) {
            int sum = 0;
            for (int d = 0; d < valley.debts; d++) {
                if (valley.debtor[d] == p && paidAt[d] == NONE) {
                    sum += valley.amount[d];
                }
            }
            return sum;
        }

        int heldMeetings() {
            int bits = 0;
            for (int m = 0; m < valley.meetings; m++) {
                if (heldAt[m] != NONE) {
                    bits |= 1 << m;
                }
            }
            return bits;
        }

        int paidDebts() {
            int bits = 0;
            for (int d = 0; d < valley.debts; d++) {
                if (paidAt[d] != NONE) {
                    bits |= 1 << d;
                }
            }
            return bits;
        }

        int unlikeDates(int crowd) {
            int many = 0;
            for (int p = 0; p < valley.persons; p++) {
                if ((crowd >> p & 1) != 0 && !isDateOfEarlier(crowd, p)) {
                    many++;
                }
            }
            return many;
        }

        private boolean isDateOfEarlier(int crowd, int p) {
            for (int q = 0; q < p; q++) {
                if ((crowd >> q & 1) != 0 && dateOf(q) == dateOf(p)) {
                    return true;
                }
            }
            return false;
        }

        int whyNotEat(int p, int f) {
            if (isIll(p)) {
                return 1;
            }
            if (left[f] == 0) {
                return 2;
            }
            return hunger[p] == 0 ? 3 : 0;
        }

        void takePortion(int p, int f) {
            left[f]--;
            eaten[p]++;
            hunger[p] = Math.max(0, hunger[p] - valley.fills[f]);
        }

        int whyNotAil(int p) {
            return isIll(p) ? 1 : 0;
        }

        int whyNotMend(int p) {
            return isIll(p) ? 0 : 1;
        }

        void turnHealth(int p) {
            ill ^= 1 << p;
        }

        int whyNotMeet(int m) {
            if (heldAt[m] != NONE) {
                return 1;
            }
            if ((valley.crowd[m] & ill) != 0) {
                return 2;
            }
            return unlikeDates(valley.crowd[m]) > 1 ? 3 : 0;
        }

        void hold(int m) {
            heldAt[m] = hour;
        }

        boolean isDue(int d) {
            int p = valley.debtor[d];
            return paidAt[d] == NONE && !isIll(p) && dateOf(p) >= valley.dueDate[d];
        }

        boolean isClash(int d) {
            int date = valley.dueDate[d];
            return paidAt[d] == NONE && dateOf(valley.creditor[d]) >= date && dateOf(valley.debtor[d]) < date;
        }

        int passHours(int n) {
            int gone = 0;
            while (gone < n && !isOver()) {
                passHour();
                gone++;
            }
            return gone;
        }

        void passHour() {
            int times = valley.isWinter(hour) ? 2 : 1;
            for (int p = 0; p < valley.persons; p++) {
                if (!isIll(p)) {
                    hunger[p] = Math.min(MOST_HUNGER, hunger[p] + times * valley.grows[p]);
                }
            }
            boolean someUnpaid = false;
            for (int d = 0; d < valley.debts; d++) {
                if (isDue(d) && !pays(d)) {
                    someUnpaid = true;
                }
            }
            if (someUnpaid) {
                unpaidHours++;
            }
            hour++;
        }

        private boolean pays(int d) {
            int from = valley.debtor[d];
            if (coin[from] < valley.amount[d]) {
                return false;
            }
            coin[from] -= valley.amount[d];
            coin[valley.creditor[d]] += valley.amount[d];
            paidAt[d] = hour;
            return true;
        }

        int partOf(int w, int p) {
            int all = 0;
            for (int q = 0; q < valley.persons; q++) {
                all += isIll(q) ? 0 : hunger[q];
            }
            if (all == 0) {
                return 0;
            }
            int over = w;
            int ahead = 0;
            for (int q = 0; q < valley.persons; q++) {
                if (isIll(q)) {
                    continue;
                }
                over -= w * hunger[q] / all;
                if (goesAhead(w * hunger[q] % all, q, w * hunger[p] % all, p)) {
                    ahead++;
                }
            }
            return w * hunger[p] / all + (ahead < over ? 1 : 0);
        }

        private static boolean goesAhead(int rest, int q, int ownRest, int p) {
            return rest > ownRest || rest == ownRest && q < p;
        }

        /** The persons eat as far as the portions go, to have no such date; false: somebody has it all the same. */
        boolean eatBelow(int date) {
            for (int i = 0; i <= PORTIONS; i++) {
                int p = firstHaving(date);
                if (p == NONE) {
                    return true;
                }
                int f = mostLeft();
                if (f == NONE) {
                    return false;
                }
                takePortion(p, f);
            }
            return false;
        }

        private int firstHaving(int date) {
            for (int p = 0; p < valley.persons; p++) {
                if (!isIll(p) && dateOf(p) >= date) {
                    return p;
                }
            }
            return NONE;
        }

        private int mostLeft() {
            int best = NONE;
            int most = 0;
            for (int f = 0; f < valley.foods; f++) {
                if (left[f] > most) {
                    most = left[f];
                    best = f;
                }
            }
            return best;
        }
    }

    /** The states ahead of the latest acts, in a ring. */
    private static final class History {
        static final int KEPT = 8;

        final State[] states = new State[KEPT];
        int next;
        int size;

        History(Valley valley) {
            for (int i = 0; i < KEPT; i++) {
                states[i] = new State(valley);
            }
        }

        void forget() {
            size = 0;
        }

        void keep(State state) {
            states[next].copyFrom(state);
            next = (next + 1) % KEPT;
            size = Math.min(KEPT, size + 1);
        }

        boolean goBack(State state) {
            if (size == 0) {
                return false;
            }
            next = (next + KEPT - 1) % KEPT;
            state.copyFrom(states[next]);
            size--;
            return true;
        }
    }

    private static final class Image {
        boolean isKept;
        final Valley valley = new Valley();
        final State state = new State(valley);
        final Sentence sentence = new Sentence();
    }

    /** Hours in which draws by a seed say who does what. */
    private static final class Draws {
        int x;

        private int draw(int n) {
            x = x * 1103515245 + 12345;
            return n > 0 ? (x >>> 8) % n : 0;
        }

        int passHours(State state, int n, int seed) {
            x = seed;
            int gone = 0;
            while (gone < n && !state.isOver()) {
                drawPersons(state);
                holdMeetings(state);
                state.passHour();
                gone++;
            }
            return gone;
        }

        private void drawPersons(State state) {
            for (int p = 0; p < state.valley.persons; p++) {
                int act = draw(8);
                if (act == 0) {
                    int f = draw(state.valley.foods);
                    if (state.whyNotEat(p, f) == 0) {
                        state.takePortion(p, f);
                    }
                } else if (act == 1) {
                    state.turnHealth(p);
                }
            }
        }

        private static void holdMeetings(State state) {
            for (int m = 0; m < state.valley.meetings; m++) {
                if (state.whyNotMeet(m) == 0) {
                    state.hold(m);
                }
            }
        }
    }

    /** Plates of at most three portions (two bits for each food tell how many of it), and who ate which. */
    private static final class Plates {
        // All of them from the least on; those of the first n foods alone stand ahead of all others.
        private static final int[] ALL = {0, 1, 2, 3, 4, 5, 6, 8, 9, 12, 16, 17, 18, 20, 21, 24, 32, 33, 36, 48,
            64, 65, 66, 68, 69, 72, 80, 81, 84, 96, 128, 129, 132, 144, 192};
        private static final int[] HOW_MANY = {1, 4, 10, 20, 35};
        static final int MOST = 35;

        int inEach = NONE;
        int tellsMost = NONE;
        private final int[] seen = new int[FOODS];

        static int howMany(int foods) {
            return foods >= 0 && foods < HOW_MANY.length ? HOW_MANY[foods] : 0;
        }

        static int at(int k) {
            return k >= 0 && k < ALL.length ? ALL[k] : 0;
        }

        static int portionsOf(int plate, int f) {
            return plate >> 2 * f & 3;
        }

        static int portionsIn(int plate) {
            return (plate & 3) + (plate >> 2 & 3) + (plate >> 4 & 3) + (plate >> 6 & 3);
        }

        /** The greatest portion is best eaten last: if there is hunger ahead of it then, some order will do. */
        static int dateBehind(Valley valley, int hunger, int plate) {
            int sum = 0;
            int greatest = 0;
            for (int f = 0; f < valley.foods; f++) {
                int portions = portionsOf(plate, f);
                if (portions > 0) {
                    sum += portions * valley.fills[f];
                    greatest = Math.max(greatest, valley.fills[f]);
                }
            }
            if (plate != 0 && sum - greatest >= hunger) {
                return NONE;
            }
            return valley.span > 0 ? Math.max(0, hunger - sum) / valley.span : 0;
        }

        /** How many plates explain a date; if some do, what they have in common is kept. */
        int guess(Valley valley, int hunger, int date) {
            int found = 0;
            int foodsInEach = (1 << valley.foods) - 1;
            for (int f = 0; f < FOODS; f++) {
                seen[f] = 0;
            }
            int plateCount = howMany(valley.foods);
            for (int k = 0; k < plateCount; k++) {
                int plate = at(k);
                if (dateBehind(valley, hunger, plate) == date) {
                    found++;
                    foodsInEach &= notePlate(valley.foods, plate);
                }
            }
            if (found > 0) {
                inEach = foodsInEach;
                tellsMost = mostUnlike(valley.foods);
            }
            return found;
        }

        private int notePlate(int foods, int plate) {
            int bits = 0;
            for (int f = 0; f < foods; f++) {
                int portions = portionsOf(plate, f);
                seen[f] |= 1 << portions;
                if (portions > 0) {
                    bits |= 1 << f;
                }
            }
            return bits;
        }

        private int mostUnlike(int foods) {
            int best = NONE;
            int most = 0;
            for (int f = 0; f < foods; f++) {
                int unlike = Integer.bitCount(seen[f]);
                if (unlike > most) {
                    most = unlike;
                    best = f;
                }
            }
            return best;
        }
    }

    /** The fewest portions by which some persons come to one date. */
    private static final class Table {
        static final int NEVER = 31;
        static final int STORES = 1296;

        int set;
        int date = NONE;
        final int[] plates = new int[PERSONS];

        private int seats;
        private final int[] guests = new int[PERSONS];
        private final int[] dates = new int[PERSONS * Plates.MOST];
        private final int[] left = new int[FOODS];
        private final int[] leastFrom = new int[PERSONS + 1];
        private int goal;
        // For each seat and what is left of the foods: the fewest portions from there on, and for which try.
        private final int[] memo = new int[PERSONS * STORES];
        private int tries;

        int plateOf(int p) {
            return p >= 0 && p < PERSONS && (set >> p & 1) != 0 ? plates[p] : NONE;
        }

        int lay(State state, int newSet) {
            if (newSet == 0) {
                set = 0;
                date = NONE;
                return 0;
            }
            seat(state, newSet);
            int plateCount = Plates.howMany(state.valley.foods);
            int best = NEVER;
            for (int tried = earliestDate(); tried >= 0; tried--) {
                goal = tried;
                sumLeastPortions(plateCount);
                if (leastFrom[0] >= best) {
                    continue;
                }
                tries++;
                int need = fewestFrom(0, plateCount);
                if (need < best) {
                    best = need;
                    fillPlates(plateCount);
                    set = newSet;
                    date = goal;
                }
            }
            return best == NEVER ? NONE : best;
        }

        private void seat(State state, int newSet) {
            seats = 0;
            for (int p = 0; p < state.valley.persons; p++) {
                if ((newSet >> p & 1) == 0) {
                    continue;
                }
                guests[seats] = p;
                for (int k = 0; k < Plates.MOST; k++) {
                    dates[seats * Plates.MOST + k] = Plates.dateBehind(state.valley, state.hunger[p], Plates.at(k));
                }
                seats++;
            }
            for (int f = 0; f < FOODS; f++) {
                left[f] = f < state.valley.foods ? state.left[f] : 0;
            }
        }

        /** Nobody's date is later behind a meal, so no later one can be that of all. */
        private int earliestDate() {
            int earliest = DATES - 1;
            for (int seat = 0; seat < seats; seat++) {
                earliest = Math.min(earliest, dates[seat * Plates.MOST]);
            }
            return earliest;
        }

        /** What those from each seat on need at least, with full stores: dearer ways need no search. */
        private void sumLeastPortions(int plateCount) {
            leastFrom[seats] = 0;
            for (int seat = seats - 1; seat >= 0; seat--) {
                int least = NEVER;
                for (int k = 0; k < plateCount; k++) {
                    if (dates[seat * Plates.MOST + k] == goal) {
                        least = Math.min(least, Plates.portionsIn(Plates.at(k)));
                    }
                }
                leastFrom[seat] = Math.min(NEVER, least + leastFrom[seat + 1]);
            }
        }

        private int fewestFrom(int seat, int plateCount) {
            if (seat >= seats) {
                return 0;
            }
            int cell = seat * STORES + storesCode();
            if (memo[cell] / 32 == tries) {
                return memo[cell] % 32;
            }
            int best = NEVER;
            for (int k = 0; k < plateCount && best > leastFrom[seat]; k++) {
                if (canTake(seat, k, best - 1)) {
                    best = Math.min(best, fewestWith(seat, k, plateCount));
                }
            }
            memo[cell] = tries * 32 + best;
            return best;
        }

        /** Whether a plate leads to the date, is there, and leaves enough of the most portions from this seat on. */
        private boolean canTake(int seat, int k, int most) {
            if (dates[seat * Plates.MOST + k] != goal) {
                return false;
            }
            int plate = Plates.at(k);
            for (int f = 0; f < FOODS; f++) {
                if (Plates.portionsOf(plate, f) > left[f]) {
                    return false;
                }
            }
            return Plates.portionsIn(plate) + leastFrom[seat + 1] <= most;
        }

        private int fewestWith(int seat, int k, int plateCount) {
            int plate = Plates.at(k);
            serve(plate, 1);
            int rest = fewestFrom(seat + 1, plateCount);
            serve(plate, -1);
            return Plates.portionsIn(plate) + rest;
        }

        private void serve(int plate, int times) {
            for (int f = 0; f < FOODS; f++) {
                left[f] -= times * Plates.portionsOf(plate, f);
            }
        }

        private int storesCode() {
            int code = 0;
            for (int f = FOODS - 1; f >= 0; f--) {
                code = code * 6 + left[f];
            }
            return code;
        }

        private void fillPlates(int plateCount) {
            for (int seat = 0; seat < seats; seat++) {
                int fewest = fewestFrom(seat, plateCount);
                for (int k = 0; k < plateCount; k++) {
                    if (canTake(seat, k, fewest) && fewestWith(seat, k, plateCount) == fewest) {
                        plates[guests[seat]] = Plates.at(k);
                        serve(Plates.at(k), 1);
                        break;
                    }
                }
            }
            for (int seat = 0; seat < seats; seat++) {
                serve(plates[guests[seat]], -1);
            }
        }
    }

    /** A book's lines, and what the latest one that was judged or lived has told. */
    private static final class Book {
        static final int LINES = 40;

        final Reader reader;
        final Valley valley;
        private int lines;
        private final int[] word = new int[LINES];
        private final int[] who = new int[LINES];
        private final int[] what = new int[LINES];
        int whyWrong = NONE;
        int goodLines = NONE;
        int hourThen = NONE;
        int heldThen = NONE;

        Book(Reader reader, Valley valley) {
            this.reader = reader;
            this.valley = valley;
        }

        boolean readAll() {
            lines = 0;
            for (int i = 0; i <= LINES; i++) {
                if (reader.kind == Reader.END) {
                    return reader.closes();
                }
                if (!readLine() || !reader.takeSign(';')) {
                    return false;
                }
                lines++;
            }
            return false;
        }

        private boolean readLine() {
            int first = reader.keyword;
            boolean ofPerson = first != MEET_WORD && first != HOUR_WORD;
            int p = ofPerson ? reader.lookNamed(valley, PERSON) : 0;
            if (p == NONE) {
                return false;
            }
            if (lines >= LINES) {
                return reader.refuse(TOO_MANY);
            }
            reader.next();
            who[lines] = p;
            if (ofPerson) {
                return readAct();
            }
            word[lines] = first;
            what[lines] = first == MEET_WORD ? reader.takeNamed(valley, MEETING) : reader.takeNumber(1, 60);
            return what[lines] != NONE;
        }

        private boolean readAct() {
            int act = reader.keyword;
            if (act != EATS_WORD && act != AILS_WORD && act != MENDS_WORD) {
                return reader.refuse(NO_TOKEN);
            }
            reader.next();
            word[lines] = act;
            what[lines] = act == EATS_WORD ? reader.takeNamed(valley, FOOD) : 0;
            return what[lines] != NONE;
        }

        int live(State state) {
            int why = 0;
            int good = 0;
            while (good < lines && why == 0) {
                why = liveLine(state, good);
                if (why == 0) {
                    good++;
                }
            }
            whyWrong = why;
            goodLines = good;
            hourThen = state.hour;
            heldThen = state.heldMeetings();
            return why == 0 ? NONE : good;
        }

        private int liveLine(State state, int line) {
            switch (word[line]) {
                case EATS_WORD: return liveEating(state, who[line], what[line]);
                case AILS_WORD: return liveTurning(state, who[line], 10, state.whyNotAil(who[line]));
                case MENDS_WORD: return liveTurning(state, who[line], 20, state.whyNotMend(who[line]));
                case MEET_WORD: return liveMeeting(state, what[line]);
                default: return liveHours(state, what[line]);
            }
        }

        private static int liveEating(State state, int p, int f) {
            int why = state.whyNotEat(p, f);
            if (why == 0) {
                state.takePortion(p, f);
            }
            return why;
        }

        private static int liveTurning(State state, int p, int more, int why) {
            if (why == 0) {
                state.turnHealth(p);
                return 0;
            }
            return more + why;
        }

        private static int liveMeeting(State state, int m) {
            int why = state.whyNotMeet(m);
            if (why == 0) {
                state.hold(m);
                return 0;
            }
            return 30 + why;
        }

        private static int liveHours(State state, int n) {
            if (state.hour + n > HOURS) {
                return 41;
            }
            state.passHours(n);
            return 0;
        }
    }

    /** What may be said of persons: its steps stand in the order in which they are worked out on a stack. */
    private static final class Sentence {
        static final int ONES = 20;
        static final int WITHIN = 8;
        static final int STEPS = 2 * ONES;

        int ones;
        private int steps;
        private final int[] word = new int[STEPS];
        private final int[] sign = new int[STEPS];
        private final int[] number = new int[STEPS];
        private final int[] stack = new int[STEPS];
        private int height;

        void forget() {
            ones = 0;
            steps = 0;
        }

        void copyFrom(Sentence other) {
            ones = other.ones;
            steps = other.steps;
            System.arraycopy(other.word, 0, word, 0, STEPS);
            System.arraycopy(other.sign, 0, sign, 0, STEPS);
            System.arraycopy(other.number, 0, number, 0, STEPS);
        }

        boolean readAll(Reader reader, Valley valley) {
            forget();
            return readCond(reader, valley, 1) && reader.closes();
        }

        private boolean readCond(Reader reader, Valley valley, int depth) {
            int ors = 0;
            int ands = 0;
            for (int i = 0; i <= ONES; i++) {
                if (!readOne(reader, valley, depth)) {
                    return false;
                }
                ands = joinLatest(AND_WORD, ands);
                if (reader.keyword == AND_WORD) {
                    ands = 1;
                } else {
                    ors = joinLatest(OR_WORD, ors);
                    if (reader.keyword != OR_WORD) {
                        return true;
                    }
                    ors = 1;
                }
                reader.next();
            }
            return reader.refuse(TOO_MANY);
        }

        /** Adds a step that joins the latest two, if one waits; none waits then. */
        private int joinLatest(int joint, int waiting) {
            if (waiting > 0) {
                addStep(joint, 0, 0);
            }
            return 0;
        }

        /** No step is added for what was refused. */
        private boolean addStep(int stepWord, int stepSign, int stepNumber) {
            if (stepNumber == NONE || steps >= STEPS) {
                return false;
            }
            word[steps] = stepWord;
            sign[steps] = stepSign;
            number[steps] = stepNumber;
            steps++;
            return true;
        }

        private boolean readOne(Reader reader, Valley valley, int depth) {
            int first = reader.keyword;
            boolean isBracket = reader.isSign('(');
            if (!isBracket && (first < NOT_WORD || first > NUMBER_WORD)) {
                return reader.refuse(NO_TOKEN);
            }
            if (ones >= ONES || depth > WITHIN) {
                return reader.refuse(TOO_MANY);
            }
            ones++;
            reader.next();
            if (isBracket) {
                return readCond(reader, valley, depth + 1) && reader.takeSign(')');
            }
            switch (first) {
                case NOT_WORD: return readOne(reader, valley, depth + 1) && addStep(NOT_WORD, 0, 0);
                case ILL_WORD:
                case OWES_WORD: return addStep(first, 0, 0);
                case LIKE_WORD: return addStep(first, 0, reader.takeNamed(valley, PERSON));
                case IN_WORD: return addStep(first, 0, reader.takeNamed(valley, MEETING));
                default: return readComparison(reader, first);
            }
        }

        private boolean readComparison(Reader reader, int first) {
            if (!reader.isSign('<') && !reader.isSign('=') && !reader.isSign('>')) {
                return reader.refuse(NO_TOKEN);
            }
            int told = reader.sign;
            reader.next();
            return addStep(first, told, reader.takeNumber(0, 999));
        }

        int trueOf(State state) {
            height = 0;
            int all = (1 << state.valley.persons) - 1;
            for (int i = 0; i < steps; i++) {
                switch (word[i]) {
                    case NOT_WORD:
                        push(all & ~pop());
                        break;
                    case AND_WORD:
                        push(pop() & pop());
                        break;
                    case OR_WORD:
                        push(pop() | pop());
                        break;
                    default:
                        push(personsBy(state, i));
                        break;
                }
            }
            return pop();
        }

        private void push(int bits) {
            if (height < STEPS) {
                stack[height] = bits;
                height++;
            }
        }

        private int pop() {
            if (height == 0) {
                return 0;
            }
            height--;
            return stack[height];
        }

        private int personsBy(State state, int step) {
            int bits = 0;
            for (int p = 0; p < state.valley.persons; p++) {
                if (isTrueOf(state, p, step)) {
                    bits |= 1 << p;
                }
            }
            return bits;
        }

        private boolean isTrueOf(State state, int p, int step) {
            int than = number[step];
            switch (word[step]) {
                case ILL_WORD: return state.isIll(p);
                case OWES_WORD: return state.owedBy(p) > 0;
                case LIKE_WORD: return state.dateOf(p) == state.dateOf(than);
                case IN_WORD: return (state.valley.crowd[than] >> p & 1) != 0;
                case DATE_WORD: return compares(state.dateOf(p), sign[step], than);
                case HUNGER_WORD: return compares(state.hunger[p], sign[step], than);
                case COIN_WORD: return compares(state.coin[p], sign[step], than);
                case NUMBER_WORD: return compares(p, sign[step], than);
                default: return false;
            }
        }

        private static boolean compares(int value, int told, int than) {
            switch (told) {
                case '<': return value < than;
                case '=': return value == than;
                default: return value > than;
            }
        }
    }
}
