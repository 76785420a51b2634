import java.util.Arrays;

/** A city in which nine offices insure against fire; ../shared/DOC.md tells what each call must do. */
public final class PlateCity {
    public static final int NONE = -1;

    private static final int MOST_WIDE = 12;
    private static final int MOST_HIGH = 10;
    private static final int MOST_CELLS = 120;
    private static final int WAYS = 8;
    private static final int TRADES = 6;
    private static final int OFFICES = 9;
    private static final int MOST_ENGINES = 12;
    private static final int MOST_MINUTES = 120;
    private static final int MOST_SOUGHT_MINUTES = 60;
    private static final int MOST_ACTS = 200;
    private static final int MOST_BYTES = 600;
    private static final int MOST_STATEMENTS = 24;
    private static final int MOST_OPEN = 6;
    private static final int MOST_SUM = 99999;
    private static final int MOST_COIN = 100000000;
    private static final int MOST_VALUE = 1000000000;
    private static final int MOST_TOLD = 8;
    private static final int MOST_PLANNED = 3;
    private static final int ALL_THOUSANDTHS = 1000;

    private static final int[] RESIST = {40, 60, 100, 160};
    private static final int[] FUEL = {15, 25, 40, 60};
    private static final int[] ROW_STEP = {-1, -1, 0, 1, 1, 1, 0, -1};
    private static final int[] COLUMN_STEP = {0, 1, 1, 1, 0, -1, -1, -1};

    // A token of the terms is a word's place in WORDS, one of the three behind them, or a sign's byte (40 and above).
    private static final String WORDS =
        "wall trade worth sum loss others near min max all office not and or cover void help pay premium beside first parts after ";
    private static final int WALL = 0;
    private static final int TRADE = 1;
    private static final int WORTH = 2;
    private static final int SUM = 3;
    private static final int LOSS = 4;
    private static final int OTHERS = 5;
    private static final int NEAR = 6;
    private static final int MIN = 7;
    private static final int MAX = 8;
    private static final int ALL = 9;
    private static final int OFFICE = 10;
    private static final int NOT = 11;
    private static final int AND = 12;
    private static final int OR = 13;
    private static final int COVER = 14;
    private static final int VOID = 15;
    private static final int HELP = 16;
    private static final int PAY = 17;
    private static final int PREMIUM = 18;
    private static final int BESIDE = 19;
    private static final int FIRST = 20;
    private static final int PARTS = 21;
    private static final int AFTER = 22;
    private static final int NUMBER = 23;
    private static final int END = 24;
    private static final int BAD = 25;
    private static final String SIGNS = "()*+,-/;<=>[]";

    private static final int FAULT_BYTE = 1;
    private static final int FAULT_NUMBER = 2;
    private static final int FAULT_OPEN = 3;
    private static final int FAULT_STATEMENT = 4;

    private final City town = new City();
    private final Engines brigade = new Engines();
    private final Reader reader = new Reader();
    private final Acts acts = new Acts();
    private final Known known = new Known();
    private final Judge judge = new Judge(town, known);
    private final Fire latest = new Fire(town, brigade);
    private final Claims claims = new Claims(acts, known, judge);
    private final Fire trial = new Fire(town, brigade);
    private final Claims trialClaims = new Claims(acts, known, judge);
    private final Fall cascade = new Fall();
    private final Planner planner = new Planner(brigade, trial);

    public PlateCity() {
        town.lay(1, 1);
    }

    public int feed(int a, int b, int c, int d, int e) {
        if (reader.length + 20 > MOST_BYTES) {
            return NONE;
        }
        reader.take(a);
        reader.take(b);
        reader.take(c);
        reader.take(d);
        reader.take(e);
        return reader.length;
    }

    public boolean end(int n) {
        if (n < 0 || n > reader.length) {
            return false;
        }
        reader.length = n;
        return true;
    }

    // ---- the city

    public boolean city(int wide, int high) {
        if (!within(wide, 1, MOST_WIDE) || !within(high, 1, MOST_HIGH)) {
            return false;
        }
        town.lay(wide, high);
        brigade.count = 0;
        acts.forget();
        latest.lit = false;
        planner.forget();
        return true;
    }

    public boolean house(int cell, int wall, int trade, int worth) {
        if (!town.has(cell) || !within(wall, 0, RESIST.length - 1)
            || !within(trade, 0, TRADES - 1) || !within(worth, 0, 9999)) {
            return false;
        }
        town.build(cell, wall, trade, worth);
        return true;
    }

    public boolean plug(int cell, boolean is) {
        if (!town.has(cell)) {
            return false;
        }
        town.plugged[cell] = is;
        return true;
    }

    public boolean hazard(int trade, int n) {
        if (!within(trade, 0, TRADES - 1) || !within(n, 0, 9)) {
            return false;
        }
        town.hazardOf[trade] = n;
        return true;
    }

    public boolean wind(int minute, int way, int strong) {
        if (!within(minute, 1, MOST_MINUTES) || !within(way, 0, WAYS - 1) || !within(strong, 0, 20)) {
            return false;
        }
        town.tellWind(minute, way, strong);
        return true;
    }

    public boolean coin(int office, int n) {
        if (!isOffice(office) || !within(n, 0, MOST_COIN)) {
            return false;
        }
        town.coinOf[office] = n;
        return true;
    }

    public int engine(int office, int cell, int goes, int pours) {
        if (!mayServe(office, goes, pours) || !town.has(cell) || brigade.count >= MOST_ENGINES) {
            return NONE;
        }
        brigade.add(office, cell, goes, pours);
        return brigade.count - 1;
    }

    public boolean deal(int bears, int of, int part) {
        if (!isOffice(bears) || !isOffice(of) || bears == of || !within(part, 0, ALL_THOUSANDTHS)) {
            return false;
        }
        town.partOf[bears][of] = part;
        return true;
    }

    // ---- acts

    public int terms(int office) {
        if (!isOffice(office) || acts.full()) {
            reader.length = 0;
            return -2;
        }
        Terms read = reader.read();
        reader.length = 0;
        if (read == null) {
            return NONE;
        }
        return acts.addTerms(office, read);
    }

    public int fault(int what) {
        if (what == 0) {
            return reader.fault;
        }
        return what == 1 ? reader.place : NONE;
    }

    public int policy(int cell, int office, int sum) {
        if (!town.hasHouse(cell) || !isOffice(office) || !within(sum, 1, MOST_SUM) || acts.full()) {
            return NONE;
        }
        return acts.addPolicy(cell, office, sum);
    }

    public int annul(int act) {
        if (!acts.mayBeVoid(act) || acts.full()) {
            return NONE;
        }
        return acts.addVoid(act);
    }

    public boolean as(int act) {
        if (!within(act, NONE, acts.count)) {
            return false;
        }
        acts.seenAt = act;
        return true;
    }

    public int force(int office) {
        if (!isOffice(office)) {
            return NONE;
        }
        known.gather(acts);
        Terms told = known.termsOf[office];
        return told == null ? NONE : told.count;
    }

    public int premium(int act) {
        if (!acts.isPolicy(act) || !acts.knownAt(act, acts.horizon())) {
            return NONE;
        }
        known.gather(acts);
        int cell = acts.cell[act];
        judge.goTo(cell);
        judge.takePolicy(acts.sum[act], known.manyAt[cell] - 1, 0);
        return judge.premiumBy(known.termsOf[acts.office[act]]);
    }

    public int helps(int cell) {
        if (!town.hasHouse(cell)) {
            return NONE;
        }
        known.gather(acts);
        return judge.helpersAt(cell);
    }

    // ---- a fire

    public int run(int cell, int minutes) {
        if (!town.hasHouse(cell) || !within(minutes, 1, MOST_MINUTES)) {
            return NONE;
        }
        learn();
        latest.burn(cell, minutes, known.helpers);
        claims.settleAll(latest);
        return latest.touched();
    }

    public int burnt(int cell, int what) {
        if (!latest.lit || !town.has(cell) || !latest.stood[cell]) {
            return NONE;
        }
        return latest.tellHouse(cell, what);
    }

    public int came(int engine, int what) {
        if (!latest.lit || !within(engine, 0, latest.engineCount - 1)) {
            return NONE;
        }
        return latest.tellEngine(engine, what);
    }

    public int lost() {
        return latest.lit ? latest.lossOfAll : NONE;
    }

    // ---- claims: of the latest run() that was not NONE, as known then

    public int claim(int act, int what) {
        if (!latest.lit || !within(act, 1, MOST_ACTS) || !claims.was[act]) {
            return NONE;
        }
        if (what == 0) {
            return claims.asks[act];
        }
        return what == 1 ? claims.gets[act] : NONE;
    }

    public int settled(int office) {
        return latest.lit && isOffice(office) ? claims.byOffice[office] : NONE;
    }

    public long fall(int office, int what) {
        if (!latest.lit || !isOffice(office)) {
            return NONE;
        }
        cascade.work(town, claims.byOffice);
        return cascade.tell(office, what);
    }

    public int rounds() {
        if (!latest.lit) {
            return NONE;
        }
        cascade.work(town, claims.byOffice);
        return cascade.roundCount;
    }

    // ---- what is sought

    public int worst(int office, int minutes) {
        if (!isOffice(office) || !within(minutes, 1, MOST_SOUGHT_MINUTES)) {
            return NONE;
        }
        learn();
        int most = 0;
        int found = NONE;
        for (int cell = 0; cell < town.cells; cell++) {
            if (town.stands[cell]) {
                trial.burn(cell, minutes, known.helpers);
                trialClaims.settleAll(trial);
                if (trialClaims.byOffice[office] > most) {
                    most = trialClaims.byOffice[office];
                    found = cell;
                }
            }
        }
        return found;
    }

    public int place(int cell) {
        if (!town.has(cell) || planner.isTold(cell) || planner.toldCount >= MOST_TOLD) {
            return NONE;
        }
        planner.told[planner.toldCount] = cell;
        planner.toldCount++;
        return planner.toldCount;
    }

    public int plan(int k, int office, int goes, int pours, int cell, int minutes) {
        if (!within(k, 1, MOST_PLANNED) || k > planner.toldCount || brigade.count + k > MOST_ENGINES
            || !mayServe(office, goes, pours) || !town.hasHouse(cell)
            || !within(minutes, 1, MOST_SOUGHT_MINUTES)) {
            return NONE;
        }
        learn();
        planner.order(office, goes, pours);
        return planner.seek(k, cell, minutes, known.helpers);
    }

    public int planned(int i) {
        return within(i, 0, planner.plannedCount - 1) ? planner.planned[i] : NONE;
    }

    public int all(int what) {
        switch (what) {
            case 0: return town.cells;
            case 1: return town.many(town.stands);
            case 2: return brigade.count;
            case 3: return acts.count;
            case 4: return acts.horizon();
            case 5: return planner.toldCount;
            case 6: return town.many(town.plugged);
            default: return NONE;
        }
    }

    private void learn() {
        known.gather(acts);
        judge.findHelpers();
    }

    private static boolean within(int n, int least, int most) {
        return n >= least && n <= most;
    }

    private static boolean isOffice(int office) {
        return within(office, 0, OFFICES - 1);
    }

    private static boolean mayServe(int office, int goes, int pours) {
        return isOffice(office) && within(goes, 1, 9) && within(pours, 1, 9);
    }

    /** Cells, houses, plugs, wind, and what the offices have and bear. */
    private static final class City {
        int wide;
        int high;
        int cells;
        final boolean[] stands = new boolean[MOST_CELLS];
        final int[] wall = new int[MOST_CELLS];
        final int[] trade = new int[MOST_CELLS];
        final int[] worth = new int[MOST_CELLS];
        final boolean[] plugged = new boolean[MOST_CELLS];
        final int[] rowOf = new int[MOST_CELLS];
        final int[] columnOf = new int[MOST_CELLS];
        final int[][] around = new int[MOST_CELLS][WAYS];
        final int[] hazardOf = new int[TRADES];
        final boolean[] windTold = new boolean[MOST_MINUTES + 1];
        final int[] windWay = new int[MOST_MINUTES + 1];
        final int[] windStrong = new int[MOST_MINUTES + 1];
        final int[] coinOf = new int[OFFICES];
        final int[][] partOf = new int[OFFICES][OFFICES];

        void lay(int newWide, int newHigh) {
            wide = newWide;
            high = newHigh;
            cells = newWide * newHigh;
            for (int cell = 0; cell < MOST_CELLS; cell++) {
                stands[cell] = false;
                plugged[cell] = false;
            }
            for (int row = 0; row < high; row++) {
                for (int column = 0; column < wide; column++) {
                    layCell(row, column);
                }
            }
            for (int minute = 0; minute <= MOST_MINUTES; minute++) {
                windTold[minute] = false;
                windWay[minute] = 0;
                windStrong[minute] = 0;
            }
            for (int office = 0; office < OFFICES; office++) {
                Arrays.fill(partOf[office], 0);
            }
        }

        private void layCell(int row, int column) {
            int cell = row * wide + column;
            rowOf[cell] = row;
            columnOf[cell] = column;
            for (int way = 0; way < WAYS; way++) {
                int otherRow = row + ROW_STEP[way];
                int otherColumn = column + COLUMN_STEP[way];
                boolean inside = within(otherRow, 0, high - 1) && within(otherColumn, 0, wide - 1);
                around[cell][way] = inside ? otherRow * wide + otherColumn : NONE;
            }
        }

        boolean has(int cell) {
            return cell >= 0 && cell < cells;
        }

        boolean hasHouse(int cell) {
            return has(cell) && stands[cell];
        }

        void build(int cell, int newWall, int newTrade, int newWorth) {
            stands[cell] = true;
            wall[cell] = newWall;
            trade[cell] = newTrade;
            worth[cell] = newWorth;
        }

        // What was told of a minute holds until the next minute of which something was told.
        void tellWind(int minute, int way, int strong) {
            windTold[minute] = true;
            windWay[minute] = way;
            windStrong[minute] = strong;
            for (int later = minute + 1; later <= MOST_MINUTES && !windTold[later]; later++) {
                windWay[later] = way;
                windStrong[later] = strong;
            }
        }

        int resistOf(int cell) {
            return RESIST[wall[cell]];
        }

        int fuelOf(int cell) {
            return FUEL[wall[cell]];
        }

        int apart(int one, int other) {
            return Math.abs(rowOf[one] - rowOf[other]) + Math.abs(columnOf[one] - columnOf[other]);
        }

        boolean plugNear(int cell) {
            for (int other = 0; other < cells; other++) {
                if (plugged[other] && apart(cell, other) <= 3) {
                    return true;
                }
            }
            return false;
        }

        int housesAround(int cell) {
            int houses = 0;
            for (int way = 0; way < WAYS; way++) {
                int other = around[cell][way];
                if (other != NONE && stands[other]) {
                    houses++;
                }
            }
            return houses;
        }

        int many(boolean[] marks) {
            int count = 0;
            for (int cell = 0; cell < cells && cell < marks.length; cell++) {
                if (marks[cell]) {
                    count++;
                }
            }
            return count;
        }
    }

    /** The engines that stand at home; a plan adds some for a while. */
    private static final class Engines {
        int count;
        final int[] office = new int[MOST_ENGINES];
        final int[] home = new int[MOST_ENGINES];
        final int[] goes = new int[MOST_ENGINES];
        final int[] pours = new int[MOST_ENGINES];

        void add(int newOffice, int cell, int newGoes, int newPours) {
            if (count >= MOST_ENGINES) {
                return;
            }
            office[count] = newOffice;
            home[count] = cell;
            goes[count] = newGoes;
            pours[count] = newPours;
            count++;
        }
    }

    /** The terms of an office as postfix code: an instruction is a token and, above it, a number. */
    private static final class Terms {
        final int count;
        final int[] code;
        final int[] kinds;
        final int[] froms;
        final int pay;
        final int premium;
        final int beside;

        Terms(Reader reader) {
            count = reader.count;
            code = Arrays.copyOf(reader.code, reader.codeLength);
            kinds = Arrays.copyOf(reader.kinds, reader.count);
            froms = Arrays.copyOf(reader.froms, reader.count + 1);
            froms[reader.count] = reader.codeLength;
            int lastPay = NONE;
            int lastPremium = NONE;
            int lastBeside = PARTS;
            for (int i = 0; i < kinds.length; i++) {
                if (kinds[i] == PAY) {
                    lastPay = i;
                } else if (kinds[i] == PREMIUM) {
                    lastPremium = i;
                } else if (kinds[i] >= FIRST) {
                    lastBeside = kinds[i];
                }
            }
            pay = lastPay;
            premium = lastPremium;
            beside = lastBeside;
        }
    }

    /** The tape, and the reading of its text into terms or a fault. */
    private static final class Reader {
        private static final int BLANK = 0;
        private static final int LETTER = 1;
        private static final int DIGIT = 2;
        private static final int SIGN = 3;
        private static final int MOST_DIGITS = 5;
        private static final int ROW_OF_OR = 0;
        private static final int ROW_OF_AND = 1;
        private static final int ROW_OF_ADD = 2;
        private static final int ROW_OF_TIMES = 3;

        int length;
        int fault;
        int place = NONE;
        int count;
        int codeLength;
        final int[] code = new int[MOST_BYTES];
        final int[] kinds = new int[MOST_STATEMENTS];
        final int[] froms = new int[MOST_STATEMENTS];
        private final int[] text = new int[MOST_BYTES];
        private final int[] tokens = new int[MOST_BYTES];
        private final int[] starts = new int[MOST_BYTES];
        private final int[] values = new int[MOST_BYTES];
        private int tokenCount;
        private int at;

        void take(int four) {
            for (int shift = 24; shift >= 0 && length < MOST_BYTES; shift -= 8) {
                text[length] = four >>> shift & 255;
                length++;
            }
        }

        Terms read() {
            fault = 0;
            place = NONE;
            count = 0;
            codeLength = 0;
            at = 0;
            scan();
            for (int i = 0; i <= MOST_STATEMENTS && fault == 0 && token() != END; i++) {
                readStatement();
            }
            return fault == 0 ? new Terms(this) : null;
        }

        private void scan() {
            tokenCount = 0;
            int before = BLANK;
            for (int i = 0; i < length; i++) {
                int sort = sortOf(text[i]);
                boolean glued = before == LETTER || before == DIGIT;
                if (sort == SIGN) {
                    addToken(SIGNS.indexOf((char) text[i]) >= 0 ? text[i] : BAD, i, 0);
                } else if (sort == LETTER && before != LETTER) {
                    addToken(glued ? BAD : wordAt(i), i, 0);
                } else if (sort == DIGIT && before != DIGIT) {
                    addToken(glued ? BAD : NUMBER, i, numberAt(i));
                }
                before = sort;
            }
        }

        private static int sortOf(int sign) {
            if (sign == 10 || sign == 32) {
                return BLANK;
            }
            if (sign >= 'a' && sign <= 'z') {
                return LETTER;
            }
            return sign >= '0' && sign <= '9' ? DIGIT : SIGN;
        }

        private void addToken(int token, int start, int value) {
            if (tokenCount >= MOST_BYTES) {
                return;
            }
            tokens[tokenCount] = token;
            starts[tokenCount] = start;
            values[tokenCount] = value;
            tokenCount++;
        }

        private int wordAt(int from) {
            int word = 0;
            int i = from;
            boolean same = true;
            for (int w = 0; w < WORDS.length(); w++) {
                boolean isLetter = i < length && sortOf(text[i]) == LETTER;
                if (WORDS.charAt(w) != ' ') {
                    same = same && isLetter && text[i] == WORDS.charAt(w);
                    i++;
                } else if (same && !isLetter) {
                    return word;
                } else {
                    word++;
                    i = from;
                    same = true;
                }
            }
            return BAD;
        }

        // NONE for more than five digits: whether that is a fault at the sixth shows only where a number is asked.
        private int numberAt(int from) {
            int value = 0;
            for (int i = from; i < length && sortOf(text[i]) == DIGIT; i++) {
                if (i - from >= MOST_DIGITS) {
                    return NONE;
                }
                value = value * 10 + text[i] - '0';
            }
            return value;
        }

        private int token() {
            return at < tokenCount ? tokens[at] : END;
        }

        private int here() {
            return at < tokenCount ? starts[at] : length;
        }

        private boolean refuse(int newFault, int newPlace) {
            fault = newFault;
            place = newPlace;
            return false;
        }

        private boolean pass(int wanted) {
            if (token() != wanted) {
                return refuse(FAULT_BYTE, here());
            }
            at++;
            return true;
        }

        private boolean enter(int wanted, int open) {
            if (token() != wanted) {
                return refuse(FAULT_BYTE, here());
            }
            if (open >= MOST_OPEN) {
                return refuse(FAULT_OPEN, here());
            }
            at++;
            return true;
        }

        private boolean emit(int token, int number) {
            if (codeLength < MOST_BYTES) {
                code[codeLength] = token + (number << 7);
                codeLength++;
            }
            return true;
        }

        private boolean readStatement() {
            if (count >= MOST_STATEMENTS) {
                return refuse(FAULT_STATEMENT, here());
            }
            int word = token();
            if (word < COVER || word > BESIDE) {
                return refuse(FAULT_BYTE, here());
            }
            at++;
            froms[count] = codeLength;
            kinds[count] = word == BESIDE ? token() : word;
            count++;
            if (word != BESIDE) {
                return readRow(word == PAY || word == PREMIUM ? ROW_OF_ADD : ROW_OF_OR, 0) && pass(';');
            }
            if (token() < FIRST || token() > AFTER) {
                return refuse(FAULT_BYTE, here());
            }
            at++;
            return pass(';');
        }

        private boolean readRow(int row, int open) {
            if (!readItem(row, open)) {
                return false;
            }
            for (int i = 0; i < MOST_BYTES && joins(row, token()); i++) {
                int join = token();
                at++;
                if (!readItem(row, open)) {
                    return false;
                }
                emit(join, 0);
            }
            return true;
        }

        private static boolean joins(int row, int token) {
            switch (row) {
                case ROW_OF_OR: return token == OR;
                case ROW_OF_AND: return token == AND;
                case ROW_OF_ADD: return token == '+' || token == '-';
                default: return token == '*' || token == '/';
            }
        }

        private boolean readItem(int row, int open) {
            switch (row) {
                case ROW_OF_OR: return readRow(ROW_OF_AND, open);
                case ROW_OF_AND: return readFact(open);
                case ROW_OF_ADD: return readRow(ROW_OF_TIMES, open);
                default: return readPart(open);
            }
        }

        private boolean readFact(int open) {
            switch (token()) {
                case NOT:
                    return enter(NOT, open) && readFact(open + 1) && emit(NOT, 0);
                case '[':
                    return enter('[', open) && readRow(ROW_OF_OR, open + 1) && pass(']');
                case ALL:
                    return pass(ALL) && emit(ALL, 0);
                case OFFICE:
                    return pass(OFFICE) && readNumber(OFFICE, OFFICES - 1);
                default:
                    return readComparison(open);
            }
        }

        private boolean readComparison(int open) {
            if (!readRow(ROW_OF_ADD, open)) {
                return false;
            }
            int sign = token();
            if (sign != '<' && sign != '>' && sign != '=') {
                return refuse(FAULT_BYTE, here());
            }
            return pass(sign) && readRow(ROW_OF_ADD, open) && emit(sign, 0);
        }

        private boolean readPart(int open) {
            int word = token();
            if (word == NUMBER) {
                return readNumber(NUMBER, MOST_SUM);
            }
            if (word <= NEAR) {
                return pass(word) && emit(word, 0);
            }
            if (word == MIN || word == MAX) {
                return pass(word) && enter('(', open) && readRow(ROW_OF_ADD, open + 1) && pass(',')
                    && readRow(ROW_OF_ADD, open + 1) && pass(')') && emit(word, 0);
            }
            return enter('(', open) && readRow(ROW_OF_ADD, open + 1) && pass(')');
        }

        private boolean readNumber(int use, int most) {
            int value = at < tokenCount ? values[at] : 0;
            if (token() == NUMBER && value == NONE) {
                return refuse(FAULT_BYTE, here() + MOST_DIGITS);
            }
            if (token() == NUMBER && value > most) {
                return refuse(FAULT_NUMBER, here());
            }
            return pass(NUMBER) && emit(use, value);
        }
    }

    /** The acts, numbered from 1 on, and the one as known at which all is told. */
    private static final class Acts {
        private static final int OF_TERMS = 1;
        private static final int OF_POLICY = 2;
        private static final int OF_VOID = 3;

        int count;
        int seenAt = NONE;
        final int[] office = new int[MOST_ACTS + 1];
        final int[] cell = new int[MOST_ACTS + 1];
        final int[] sum = new int[MOST_ACTS + 1];
        final Terms[] told = new Terms[MOST_ACTS + 1];
        private final int[] kind = new int[MOST_ACTS + 1];
        private final int[] voidBy = new int[MOST_ACTS + 1];

        void forget() {
            count = 0;
            seenAt = NONE;
        }

        boolean full() {
            return count >= MOST_ACTS;
        }

        int addTerms(int newOffice, Terms newTerms) {
            if (add(OF_TERMS)) {
                office[count] = newOffice;
                told[count] = newTerms;
            }
            return count;
        }

        int addPolicy(int newCell, int newOffice, int newSum) {
            if (add(OF_POLICY)) {
                cell[count] = newCell;
                office[count] = newOffice;
                sum[count] = newSum;
            }
            return count;
        }

        int addVoid(int act) {
            if (mayBeVoid(act) && add(OF_VOID)) {
                voidBy[act] = count;
            }
            return count;
        }

        private boolean add(int newKind) {
            if (full()) {
                return false;
            }
            count++;
            kind[count] = newKind;
            voidBy[count] = 0;
            told[count] = null;
            return true;
        }

        boolean mayBeVoid(int act) {
            return within(act, 1, count) && kind[act] != OF_VOID && voidBy[act] == 0;
        }

        boolean isPolicy(int act) {
            return within(act, 1, count) && kind[act] == OF_POLICY;
        }

        boolean isTerms(int act) {
            return within(act, 1, count) && kind[act] == OF_TERMS;
        }

        boolean knownAt(int act, int seen) {
            return within(act, 1, Math.min(seen, count)) && (voidBy[act] == 0 || voidBy[act] > seen);
        }

        int horizon() {
            return seenAt == NONE ? count : seenAt;
        }
    }

    /** The terms and policies that are known at an act. */
    private static final class Known {
        int policyCount;
        final Terms[] termsOf = new Terms[OFFICES];
        final int[] policies = new int[MOST_ACTS];
        final int[] officesAt = new int[MOST_CELLS];
        final int[] manyAt = new int[MOST_CELLS];
        final int[] helpers = new int[MOST_CELLS];

        void gather(Acts acts) {
            policyCount = 0;
            for (int office = 0; office < OFFICES; office++) {
                termsOf[office] = null;
            }
            Arrays.fill(officesAt, 0);
            Arrays.fill(manyAt, 0);
            int seen = acts.horizon();
            for (int act = 1; act <= seen; act++) {
                if (acts.knownAt(act, seen)) {
                    note(acts, act);
                }
            }
        }

        private void note(Acts acts, int act) {
            int office = acts.office[act];
            if (acts.isTerms(act)) {
                termsOf[office] = acts.told[act];
            } else if (acts.isPolicy(act) && policyCount < MOST_ACTS) {
                int cell = acts.cell[act];
                officesAt[cell] |= 1 << office;
                manyAt[cell]++;
                policies[policyCount] = act;
                policyCount++;
            }
        }
    }

    /** Works out what terms say of a house and a policy. */
    private static final class Judge {
        // Six open at once, and six values that may wait in each, stay far below.
        private static final int MOST_WAITING = 64;

        private final City city;
        private final Known known;
        private final int[] facts = new int[NEAR + 1];
        private final int[] waiting = new int[MOST_WAITING];
        private int offices;

        Judge(City newCity, Known newKnown) {
            city = newCity;
            known = newKnown;
        }

        void goTo(int cell) {
            facts[WALL] = city.wall[cell];
            facts[TRADE] = city.trade[cell];
            facts[WORTH] = city.worth[cell];
            facts[NEAR] = city.housesAround(cell);
            offices = known.officesAt[cell];
        }

        void takePolicy(int sum, int others, int loss) {
            facts[SUM] = sum;
            facts[OTHERS] = others;
            facts[LOSS] = loss;
        }

        void findHelpers() {
            for (int cell = 0; cell < city.cells; cell++) {
                known.helpers[cell] = city.stands[cell] ? helpersAt(cell) : 0;
            }
        }

        int helpersAt(int cell) {
            goTo(cell);
            takePolicy(0, known.manyAt[cell], 0);
            int bits = offices;
            for (int office = 0; office < OFFICES; office++) {
                if (some(known.termsOf[office], HELP)) {
                    bits |= 1 << office;
                }
            }
            return bits;
        }

        int premiumBy(Terms terms) {
            if (terms == null || terms.premium == NONE) {
                return 0;
            }
            return Math.max(0, valueOf(terms, terms.premium));
        }

        int askBy(Terms terms) {
            if (terms == null || facts[LOSS] == 0 || some(terms, VOID) || !some(terms, COVER)) {
                return 0;
            }
            int pays = terms.pay == NONE ? facts[LOSS] : valueOf(terms, terms.pay);
            return Math.max(0, Math.min(facts[SUM], pays));
        }

        private boolean some(Terms terms, int kind) {
            if (terms == null) {
                return false;
            }
            for (int i = 0; i < terms.count; i++) {
                if (terms.kinds[i] == kind && valueOf(terms, i) != 0) {
                    return true;
                }
            }
            return false;
        }

        private int valueOf(Terms terms, int statement) {
            if (!within(statement, 0, terms.count - 1)) {
                return 0;
            }
            int top = 0;
            int end = Math.min(terms.froms[statement + 1], terms.code.length);
            for (int i = terms.froms[statement]; i < end; i++) {
                int token = terms.code[i] & 127;
                if (token == NOT && top >= 1) {
                    waiting[top - 1] = 1 - waiting[top - 1];
                } else if (isJoin(token) && top >= 2) {
                    waiting[top - 2] = joined(token, waiting[top - 2], waiting[top - 1]);
                    top--;
                } else if (top < MOST_WAITING) {
                    waiting[top] = single(token, terms.code[i] >> 7);
                    top++;
                }
            }
            return top > 0 ? waiting[0] : 0;
        }

        private static boolean isJoin(int token) {
            return token >= '(' || token == MIN || token == MAX || token == AND || token == OR;
        }

        private int single(int token, int number) {
            if (token <= NEAR) {
                return facts[token];
            }
            if (token == OFFICE) {
                return offices >> number & 1;
            }
            return token == ALL ? 1 : number;
        }

        private static int joined(int token, int left, int right) {
            long value;
            switch (token) {
                case '+': value = (long) left + right; break;
                case '-': value = (long) left - right; break;
                case '*': value = (long) left * right; break;
                case '/': value = right == 0 ? 0 : Math.floorDiv(left, right); break;
                case '<': value = left < right ? 1 : 0; break;
                case '>': value = left > right ? 1 : 0; break;
                case '=': value = left == right ? 1 : 0; break;
                case MIN: value = left < right ? left : right; break;
                case MAX: value = left > right ? left : right; break;
                case AND: value = left & right; break;
                default: value = left | right; break;
            }
            if (value > MOST_VALUE) {
                return MOST_VALUE;
            }
            return value < -MOST_VALUE ? -MOST_VALUE : (int) value;
        }
    }

    /** A fire, minute by minute, and how it ended. */
    private static final class Fire {
        private static final int WHOLE = 0;
        private static final int BURNS = 1;
        private static final int DOWN = 2;
        private static final int MOST_STRENGTH = 9;
        private static final int FIRST_DRIVE = 3;

        boolean lit;
        int engineCount;
        int lossOfAll;
        final boolean[] stood = new boolean[MOST_CELLS];
        final int[] loss = new int[MOST_CELLS];
        private final City city;
        private final Engines engines;
        private final int[] state = new int[MOST_CELLS];
        private final int[] heat = new int[MOST_CELLS];
        private final int[] strength = new int[MOST_CELLS];
        private final int[] minutesBurnt = new int[MOST_CELLS];
        private final int[] began = new int[MOST_CELLS];
        private final boolean[] watered = new boolean[MOST_CELLS];
        private final int[] stand = new int[MOST_ENGINES];
        private final int[] aim = new int[MOST_ENGINES];
        private final int[] poured = new int[MOST_ENGINES];

        Fire(City newCity, Engines newEngines) {
            city = newCity;
            engines = newEngines;
        }

        void burn(int start, int minutes, int[] helpers) {
            makeReady();
            kindle(start, 0);
            for (int minute = 1; minute <= minutes; minute++) {
                consume();
                spread(minute);
                if (minute >= FIRST_DRIVE) {
                    drive(minute, helpers);
                }
            }
            tally();
        }

        private void makeReady() {
            lit = true;
            for (int cell = 0; cell < city.cells; cell++) {
                stood[cell] = city.stands[cell];
                state[cell] = WHOLE;
                heat[cell] = 0;
                strength[cell] = 0;
                minutesBurnt[cell] = 0;
                began[cell] = NONE;
                watered[cell] = city.plugNear(cell);
            }
            engineCount = engines.count;
            for (int engine = 0; engine < engineCount; engine++) {
                stand[engine] = engines.home[engine];
                aim[engine] = NONE;
                poured[engine] = NONE;
            }
        }

        private void kindle(int cell, int minute) {
            state[cell] = BURNS;
            strength[cell] = 1;
            if (began[cell] == NONE) {
                began[cell] = minute;
            }
        }

        private void consume() {
            for (int cell = 0; cell < city.cells; cell++) {
                if (state[cell] != BURNS) {
                    continue;
                }
                strength[cell] = Math.min(MOST_STRENGTH, strength[cell] + 1);
                minutesBurnt[cell]++;
                if (minutesBurnt[cell] >= city.fuelOf(cell)) {
                    state[cell] = DOWN;
                    strength[cell] = 0;
                }
            }
        }

        private void spread(int minute) {
            for (int cell = 0; cell < city.cells; cell++) {
                if (mayCatch(cell)) {
                    heat[cell] = Math.max(0, heat[cell] - 2);
                }
            }
            for (int cell = 0; cell < city.cells; cell++) {
                if (state[cell] == BURNS) {
                    warmAround(cell, city.windWay[minute], city.windStrong[minute]);
                }
            }
            for (int cell = 0; cell < city.cells; cell++) {
                if (mayCatch(cell) && heat[cell] >= city.resistOf(cell)) {
                    kindle(cell, minute);
                }
            }
        }

        private boolean mayCatch(int cell) {
            return stood[cell] && state[cell] == WHOLE;
        }

        private void warmAround(int cell, int windWay, int windStrong) {
            int warmth = strength[cell] + city.hazardOf[city.trade[cell]];
            for (int way = 0; way < WAYS; way++) {
                int other = city.around[cell][way];
                if (other != NONE && mayCatch(other)) {
                    heat[other] += way == windWay ? warmth + windStrong : warmth;
                }
            }
        }

        private void drive(int minute, int[] helpers) {
            for (int engine = 0; engine < engineCount; engine++) {
                if (aim[engine] == NONE || state[aim[engine]] != BURNS) {
                    aim[engine] = nearest(stand[engine], 1 << engines.office[engine], helpers);
                }
                if (aim[engine] != NONE) {
                    stand[engine] = gone(stand[engine], aim[engine], engines.goes[engine]);
                    if (stand[engine] == aim[engine]) {
                        pour(engine, minute);
                    }
                }
            }
        }

        private int nearest(int from, int office, int[] helpers) {
            int found = NONE;
            int least = MOST_CELLS;
            for (int cell = 0; cell < city.cells; cell++) {
                if (state[cell] == BURNS && (helpers[cell] & office) != 0 && city.apart(from, cell) < least) {
                    found = cell;
                    least = city.apart(from, cell);
                }
            }
            return found;
        }

        private int gone(int from, int to, int steps) {
            int across = toward(city.columnOf[to] - city.columnOf[from], steps);
            int left = steps - Math.abs(across);
            int along = toward(city.rowOf[to] - city.rowOf[from], left);
            return from + across + along * city.wide;
        }

        private static int toward(int way, int steps) {
            return Math.max(-steps, Math.min(steps, way));
        }

        private void pour(int engine, int minute) {
            int cell = aim[engine];
            int water = engines.pours[engine];
            strength[cell] -= watered[cell] ? water : water / 2;
            if (poured[engine] == NONE) {
                poured[engine] = minute;
            }
            if (strength[cell] <= 0) {
                state[cell] = WHOLE;
                heat[cell] = 0;
                strength[cell] = 0;
            }
        }

        private void tally() {
            lossOfAll = 0;
            for (int cell = 0; cell < city.cells; cell++) {
                int fuel = city.fuelOf(cell);
                loss[cell] = stood[cell] && fuel > 0 ? city.worth[cell] * minutesBurnt[cell] / fuel : 0;
                lossOfAll += loss[cell];
            }
        }

        int touched() {
            int count = 0;
            for (int cell = 0; cell < city.cells; cell++) {
                if (state[cell] != WHOLE) {
                    count++;
                }
            }
            return count;
        }

        int tellHouse(int cell, int what) {
            switch (what) {
                case 0: return state[cell];
                case 1: return heat[cell];
                case 2: return strength[cell];
                case 3: return minutesBurnt[cell];
                case 4: return loss[cell];
                case 5: return began[cell];
                default: return NONE;
            }
        }

        int tellEngine(int engine, int what) {
            switch (what) {
                case 0: return stand[engine];
                case 1: return aim[engine];
                case 2: return poured[engine];
                default: return NONE;
            }
        }
    }

    /** What the known policies ask after a fire, and what is settled for each. */
    private static final class Claims {
        final boolean[] was = new boolean[MOST_ACTS + 1];
        final int[] asks = new int[MOST_ACTS + 1];
        final int[] gets = new int[MOST_ACTS + 1];
        final int[] byOffice = new int[OFFICES];
        private final Acts acts;
        private final Known known;
        private final Judge judge;
        private final int[] here = new int[MOST_ACTS];
        private final long[] rests = new long[MOST_ACTS];
        private int hereCount;

        Claims(Acts newActs, Known newKnown, Judge newJudge) {
            acts = newActs;
            known = newKnown;
            judge = newJudge;
        }

        void settleAll(Fire fire) {
            Arrays.fill(byOffice, 0);
            for (int act = 0; act <= MOST_ACTS; act++) {
                was[act] = false;
                asks[act] = 0;
                gets[act] = 0;
            }
            for (int i = 0; i < known.policyCount; i++) {
                was[known.policies[i]] = true;
            }
            for (int cell = 0; cell < MOST_CELLS; cell++) {
                if (known.manyAt[cell] > 0 && fire.loss[cell] > 0) {
                    settleHouse(cell, fire.loss[cell]);
                }
            }
            for (int i = 0; i < known.policyCount; i++) {
                int act = known.policies[i];
                byOffice[acts.office[act]] += gets[act];
            }
        }

        private void settleHouse(int cell, int loss) {
            judge.goTo(cell);
            hereCount = 0;
            for (int i = 0; i < known.policyCount; i++) {
                int act = known.policies[i];
                if (acts.cell[act] == cell) {
                    judge.takePolicy(acts.sum[act], known.manyAt[cell] - 1, loss);
                    asks[act] = judge.askBy(known.termsOf[acts.office[act]]);
                    here[hereCount] = act;
                    hereCount++;
                }
            }
            int left = payInTurn(FIRST, loss);
            left = payByParts(left);
            payInTurn(AFTER, left);
        }

        private boolean isBeside(int act, int beside) {
            Terms terms = known.termsOf[acts.office[act]];
            return terms != null && terms.beside == beside;
        }

        private int payInTurn(int beside, int left) {
            int rest = left;
            for (int i = 0; i < hereCount; i++) {
                if (isBeside(here[i], beside)) {
                    gets[here[i]] = Math.min(asks[here[i]], rest);
                    rest -= gets[here[i]];
                }
            }
            return rest;
        }

        private int payByParts(int left) {
            int together = 0;
            for (int i = 0; i < hereCount; i++) {
                if (isBeside(here[i], PARTS)) {
                    together += asks[here[i]];
                }
            }
            if (together <= left) {
                return payInTurn(PARTS, left);
            }
            int lacks = payFloors(left, together);
            payRests(lacks);
            return 0;
        }

        private int payFloors(int left, int together) {
            int lacks = left;
            for (int i = 0; i < hereCount; i++) {
                rests[i] = NONE;
                if (together > 0 && isBeside(here[i], PARTS)) {
                    long share = (long) left * asks[here[i]];
                    gets[here[i]] = (int) (share / together);
                    rests[i] = share % together;
                    lacks -= gets[here[i]];
                }
            }
            return lacks;
        }

        private void payRests(int lacks) {
            for (int n = 0; n < lacks && n < hereCount; n++) {
                int greatest = 0;
                for (int i = 1; i < hereCount; i++) {
                    if (rests[i] > rests[greatest]) {
                        greatest = i;
                    }
                }
                gets[here[greatest]]++;
                rests[greatest] = NONE;
            }
        }
    }

    /** Which offices can't pay what they owe, round by round. */
    private static final class Fall {
        private static final int HOUSES = OFFICES;
        private static final int MOST_ROUNDS = 100;

        int roundCount;
        private final long[][] owes = new long[OFFICES][OFFICES + 1];
        private final long[][] pays = new long[OFFICES][OFFICES + 1];
        private final long[][] next = new long[OFFICES][OFFICES + 1];

        void work(City city, int[] settledBy) {
            for (int office = 0; office < OFFICES; office++) {
                for (int other = 0; other < OFFICES; other++) {
                    owes[office][other] = (long) settledBy[other] * city.partOf[office][other] / ALL_THOUSANDTHS;
                    pays[office][other] = owes[office][other];
                }
                owes[office][HOUSES] = settledBy[office];
                pays[office][HOUSES] = owes[office][HOUSES];
            }
            roundCount = 0;
            boolean changed = true;
            for (int i = 0; i < MOST_ROUNDS && changed; i++) {
                changed = goRound(city);
                roundCount++;
            }
        }

        private boolean goRound(City city) {
            for (int office = 0; office < OFFICES; office++) {
                payFrom(office, city.coinOf[office] + got(office));
            }
            boolean changed = false;
            for (int office = 0; office < OFFICES; office++) {
                for (int to = 0; to <= HOUSES; to++) {
                    changed = changed || next[office][to] != pays[office][to];
                    pays[office][to] = next[office][to];
                }
            }
            return changed;
        }

        private void payFrom(int office, long has) {
            long due = sumOf(owes[office]);
            for (int to = 0; to <= HOUSES; to++) {
                long owed = owes[office][to];
                next[office][to] = due > 0 && has < due ? owed * has / due : owed;
            }
        }

        private long got(int office) {
            long sum = 0;
            for (int other = 0; other < OFFICES; other++) {
                sum += pays[other][office];
            }
            return sum;
        }

        private static long sumOf(long[] row) {
            long sum = 0;
            for (int i = 0; i < row.length; i++) {
                sum += row[i];
            }
            return sum;
        }

        long tell(int office, int what) {
            switch (what) {
                case 0: return sumOf(owes[office]);
                case 1: return sumOf(pays[office]);
                case 2: return sumOf(pays[office]) < sumOf(owes[office]) ? 1 : 0;
                case 3: return pays[office][HOUSES];
                default: return NONE;
            }
        }
    }

    /** The cells told for plans, and the search for the best set of them. */
    private static final class Planner {
        int toldCount;
        int plannedCount;
        final int[] told = new int[MOST_TOLD];
        final int[] planned = new int[MOST_PLANNED];
        private final Engines engines;
        private final Fire fire;
        private final int[] chosen = new int[MOST_PLANNED];
        private int office;
        private int goes;
        private int pours;

        Planner(Engines newEngines, Fire newFire) {
            engines = newEngines;
            fire = newFire;
        }

        void forget() {
            toldCount = 0;
            plannedCount = 0;
        }

        boolean isTold(int cell) {
            for (int i = 0; i < toldCount; i++) {
                if (told[i] == cell) {
                    return true;
                }
            }
            return false;
        }

        void order(int newOffice, int newGoes, int newPours) {
            office = newOffice;
            goes = newGoes;
            pours = newPours;
        }

        int seek(int k, int cell, int minutes, int[] helpers) {
            for (int i = 0; i < k; i++) {
                chosen[i] = i;
            }
            int before = engines.count;
            int least = NONE;
            boolean more = true;
            // Eight cells have at most 56 sets of three.
            for (int i = 0; i < 56 && more; i++) {
                addChosen(k);
                fire.burn(cell, minutes, helpers);
                engines.count = before;
                if (least == NONE || fire.lossOfAll < least) {
                    least = fire.lossOfAll;
                    keep(k);
                }
                more = chooseNext(k);
            }
            return least;
        }

        private void addChosen(int k) {
            for (int i = 0; i < k; i++) {
                engines.add(office, told[chosen[i]], goes, pours);
            }
        }

        private void keep(int k) {
            plannedCount = k;
            for (int i = 0; i < k; i++) {
                planned[i] = told[chosen[i]];
            }
        }

        private boolean chooseNext(int k) {
            for (int i = k - 1; i >= 0; i--) {
                if (chosen[i] < toldCount - k + i) {
                    chosen[i]++;
                    for (int j = i + 1; j < k; j++) {
                        chosen[j] = chosen[j - 1] + 1;
                    }
                    return true;
                }
            }
            return false;
        }
    }
}
