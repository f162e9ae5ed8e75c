import java.util.NoSuchElementException;

/** A freshness allocator: dated lots of goods, reserved to orders for days to come. */
public final class FreshAllotter {
    public static final int NONE = -1;

    private static final int LOTS_FULL = -2;
    private static final int HAS_OPEN_ONE = -2;
    private static final int ORDERS_FULL = -3;
    private static final int BY_NO_DAYS = -2;

    private static final int GOODS_MAX = 4;
    private static final int CUSTOMERS_MAX = 6;
    private static final int TEXT_LOTS_MAX = 12;
    private static final int TEXT_ORDERS_MAX = 12;
    private static final int LOTS_MAX = 24;
    private static final int ORDERS_MAX = 40;
    private static final int NUMBER_MAX = 99;
    private static final int HOLD_MAX = 999;
    private static final int TODAY_MAX = 900;
    private static final int UNDO_MAX = 10;
    private static final int TEXT_MAX = 600;
    private static final int TAPE_MAX = 640;
    private static final int FEED_BYTES = 20;

    private static final int OPEN = 0;
    private static final int DELIVERED = 1;
    private static final int CANCELLED = 2;
    private static final int LAPSED = 3;

    private final Tape tape = new Tape();
    private final Stock stock = new Stock();
    private final Stock draft = new Stock();
    private final TextReader reader = new TextReader(tape, draft);
    private final Planner planner = new Planner(stock);
    private final Past past = new Past();

    public FreshAllotter() {
        stock.clear();
        stock.goods = 1;
    }

    public int feed(int a, int b, int c, int d, int e) {
        if (tape.size + FEED_BYTES > TAPE_MAX) {
            return NONE;
        }
        tape.put(a);
        tape.put(b);
        tape.put(c);
        tape.put(d);
        tape.put(e);
        return tape.size;
    }

    public boolean end(int n) {
        if (n < 0 || n > tape.size) {
            return false;
        }
        tape.size = n;
        return true;
    }

    public int text() {
        boolean sound = reader.readAll();
        tape.size = 0;
        if (!sound) {
            return -1 - reader.faultPlace;
        }
        stock.copyFrom(draft);
        past.forget();
        return reader.lines;
    }

    public int fault() {
        return reader.faultKind;
    }

    public int now(int what) {
        switch (what) {
            case 0: return stock.today;
            case 1: return stock.goods;
            case 2: return stock.customers;
            case 3: return stock.lots;
            case 4: return stock.orders;
            case 5: return stock.countOpen();
            case 6: return stock.sumLeft();
            case 7: return stock.sumReserved();
            case 8: return stock.wasted;
            case 9: return stock.handedOut;
            case 10: return past.count;
            case 11: return tape.size;
            default: return NONE;
        }
    }

    public int lot(int lot, int what) throws NoSuchElementException {
        if (!stock.hasLot(lot)) {
            throw new NoSuchElementException("no such lot");
        }
        switch (what) {
            case 0: return stock.lotGood[lot];
            case 1: return stock.lotExpiry[lot];
            case 2: return stock.lotLeft[lot];
            case 3: return stock.lotHold[lot];
            case 4: return stock.reservedOfLot(lot);
            default: throw new NoSuchElementException("a lot has no such number");
        }
    }

    public int order(int order, int what) throws NoSuchElementException {
        if (!stock.hasOrder(order)) {
            throw new NoSuchElementException("no such order");
        }
        switch (what) {
            case 0: return stock.orderCustomer[order];
            case 1: return stock.orderGood[order];
            case 2: return stock.orderSum[order];
            case 3: return stock.orderDay[order];
            case 4: return stock.orderState[order];
            case 5: return stock.reservedForOrder(order);
            case 6: return stock.orderGot[order];
            default: throw new NoSuchElementException("an order has no such number");
        }
    }

    public int reserved(int lot, int order) {
        if (!stock.hasLot(lot) || !stock.hasOrder(order)) {
            return NONE;
        }
        return stock.reservedFor(lot, order);
    }

    public int customer(int customer, int good) {
        if (!stock.hasCustomer(customer)) {
            return NONE;
        }
        if (good == NONE) {
            return stock.life[customer];
        }
        return stock.hasGood(good) ? stock.latestOf(customer, good) : NONE;
    }

    public boolean suits(int lot, int order) {
        return stock.hasLot(lot) && stock.isOpen(order) && stock.fits(lot, order);
    }

    public int plan(int lot, int order) {
        boolean ofAll = lot == NONE;
        if (!stock.isOpen(order) || !(ofAll || stock.hasLot(lot))) {
            return NONE;
        }
        planner.make(stock, stock.orderGood[order]);
        return ofAll ? planner.grantOf(order) : planner.shareOf(lot, order);
    }

    public int waste(int good, int day) {
        if (!stock.hasGood(good) || !stock.isAhead(day)) {
            return NONE;
        }
        int sum = 0;
        for (int lot = 0; lot < stock.lots; lot++) {
            if (stock.lotGood[lot] == good && stock.lotExpiry[lot] <= day) {
                sum += stock.lotLeft[lot] - stock.reservedOfLot(lot);
            }
        }
        return sum;
    }

    public int least(int good, int day) {
        if (!stock.hasGood(good) || !stock.isAhead(day)) {
            return NONE;
        }
        planner.make(stock, good);
        return planner.sumRestTo(day);
    }

    public int would(int customer, int good, int sum, int day) {
        if (!isOrder(customer, good, sum, day)) {
            return NONE;
        }
        if (stock.openOrder(customer, good) != NONE) {
            return HAS_OPEN_ONE;
        }
        draft.copyFrom(stock);
        int order = draft.addOrder(customer, good, sum, day);
        planner.make(draft, good);
        return planner.grantOf(order);
    }

    public int slack(int order) {
        if (!stock.isOpen(order)) {
            return NONE;
        }
        draft.copyFrom(stock);
        int enough = stock.life[stock.orderCustomer[order]];
        if (!isFilledWith(enough, order)) {
            return BY_NO_DAYS;
        }
        // Halving is right since an order never has less when its customer wants less life.
        int least = 0;
        for (int step = 0; step <= NUMBER_MAX && least < enough; step++) {
            int middle = (least + enough) / 2;
            if (isFilledWith(middle, order)) {
                enough = middle;
            } else {
                least = middle + 1;
            }
        }
        return enough;
    }

    public int comes(int good, int expiry, int sum, int hold) {
        if (!stock.hasGood(good) || !stock.isAhead(expiry) || !isSum(sum) || !isHold(hold)) {
            return NONE;
        }
        if (stock.lots >= LOTS_MAX) {
            return LOTS_FULL;
        }
        past.keep(stock);
        return stock.addLot(good, expiry, sum, hold);
    }

    public int asks(int customer, int good, int sum, int day) {
        if (!isOrder(customer, good, sum, day)) {
            return NONE;
        }
        if (stock.openOrder(customer, good) != NONE) {
            return HAS_OPEN_ONE;
        }
        if (stock.orders >= ORDERS_MAX) {
            return ORDERS_FULL;
        }
        past.keep(stock);
        return stock.addOrder(customer, good, sum, day);
    }

    public int reserve(int good) {
        if (!stock.hasGood(good)) {
            return NONE;
        }
        past.keep(stock);
        planner.make(stock, good);
        return planner.reserveAll();
    }

    public int cancel(int order) {
        if (!stock.isOpen(order)) {
            return NONE;
        }
        past.keep(stock);
        return stock.close(order, CANCELLED);
    }

    public int hold(int lot, int day) {
        if (!stock.hasLot(lot) || !isHold(day)) {
            return NONE;
        }
        past.keep(stock);
        stock.lotHold[lot] = day;
        return stock.releaseUnfit(lot);
    }

    public int deliver(int order) {
        if (!stock.isOpen(order) || stock.orderDay[order] != stock.today
                || stock.reservedForOrder(order) == 0) {
            return NONE;
        }
        past.keep(stock);
        return stock.handOut(order);
    }

    public int pass(int days) {
        if (days < 1 || days > NUMBER_MAX || stock.today + days > TODAY_MAX) {
            return NONE;
        }
        past.keep(stock);
        for (int day = 0; day < days; day++) {
            stock.endDay();
        }
        return stock.today;
    }

    public int undo() {
        if (past.count == 0) {
            return NONE;
        }
        past.bringBack(stock);
        return past.count;
    }

    private static boolean isSum(int sum) {
        return sum >= 1 && sum <= NUMBER_MAX;
    }

    private static boolean isHold(int day) {
        return day >= 0 && day <= HOLD_MAX;
    }

    private boolean isOrder(int customer, int good, int sum, int day) {
        return stock.hasCustomer(customer) && stock.hasGood(good) && isSum(sum) && stock.isAhead(day);
    }

    /** Whether an order would have all of its sum if its customer wanted so many days less; the draft is else the stock. */
    private boolean isFilledWith(int daysLess, int order) {
        int customer = stock.orderCustomer[order];
        draft.life[customer] = stock.life[customer] - daysLess;
        planner.make(draft, stock.orderGood[order]);
        return planner.grantOf(order) == stock.orderSum[order];
    }

    /** The bytes that were fed. */
    private static final class Tape {
        final byte[] bytes = new byte[TAPE_MAX];
        int size;

        void put(int number) {
            for (int shift = 24; shift >= 0 && size < TAPE_MAX; shift -= 8) {
                bytes[size] = (byte) (number >> shift);
                size++;
            }
        }
    }

    /** Reads the tape token by token. */
    private static final class Tokens {
        static final int END = 0;
        static final int BAD = 1;
        static final int NUMBER = 2;
        static final int STOP = 3;
        // The kinds of words stand in the order in which their lines may come.
        static final int GOODS = 4;
        static final int CUSTOMER = 5;
        static final int LOT = 6;
        static final int ORDER = 7;

        private static final int DIGITS_MAX = 2;

        private final Tape tape;
        private int at;
        int kind;
        int place;
        int value;

        Tokens(Tape tape) {
            this.tape = tape;
        }

        void rewind() {
            at = 0;
        }

        void advance() {
            skipBlanks();
            place = at;
            if (tape.size > TEXT_MAX && at >= TEXT_MAX) {
                place = TEXT_MAX;
                kind = BAD;
            } else if (at >= tape.size) {
                kind = END;
            } else if (tape.bytes[at] == ';') {
                kind = STOP;
                at++;
            } else {
                readRun();
            }
        }

        private void skipBlanks() {
            while (at < tape.size && (tape.bytes[at] == ' ' || tape.bytes[at] == '\n')) {
                at++;
            }
        }

        private void readRun() {
            int letters = 0;
            int digits = 0;
            value = 0;
            while (at < tape.size && (isLetter(tape.bytes[at]) || isDigit(tape.bytes[at]))) {
                if (isLetter(tape.bytes[at])) {
                    letters++;
                } else {
                    digits++;
                    // Only the first two digits count: a longer run is no token.
                    value = digits <= DIGITS_MAX ? value * 10 + (tape.bytes[at] - '0') : value;
                }
                at++;
            }
            if (digits == 0) {
                kind = wordKind();
            } else {
                kind = letters == 0 && digits <= DIGITS_MAX ? NUMBER : BAD;
            }
        }

        /** A word that no line begins with can't come anywhere, so it is as bad as no token. */
        private int wordKind() {
            if (spells("goods")) {
                return GOODS;
            }
            if (spells("customer")) {
                return CUSTOMER;
            }
            if (spells("lot")) {
                return LOT;
            }
            return spells("order") ? ORDER : BAD;
        }

        private boolean spells(String word) {
            if (at - place != word.length()) {
                return false;
            }
            for (int i = 0; i < word.length(); i++) {
                if (tape.bytes[place + i] != word.charAt(i)) {
                    return false;
                }
            }
            return true;
        }

        private static boolean isLetter(int sign) {
            return sign >= 'a' && sign <= 'z';
        }

        private static boolean isDigit(int sign) {
            return sign >= '0' && sign <= '9';
        }
    }

    /** Reads the tape as a text, token by token, up to its first fault. */
    private static final class TextReader {
        private static final int SOUND = 0;
        private static final int NO_TOKEN = 1;
        private static final int WRONG_NUMBER = 2;
        private static final int TOO_MANY = 3;
        private static final int LINE_NUMBERS_MAX = 4;

        private final Tokens tokens;
        private final Stock target;
        // The line that is being read, or the one that was read last.
        private int sort;
        private int come;
        private boolean inLine;
        private final int[] numbers = new int[LINE_NUMBERS_MAX];
        int lines;
        int faultKind;
        int faultPlace;

        TextReader(Tape tape, Stock target) {
            tokens = new Tokens(tape);
            this.target = target;
        }

        boolean readAll() {
            start();
            // No text has more tokens than bytes, and the end is one more.
            for (int i = 0; i <= TAPE_MAX && faultKind == SOUND; i++) {
                tokens.advance();
                if (tokens.kind == Tokens.END && lines > 0 && !inLine) {
                    return true;
                }
                faultKind = takeToken();
                faultPlace = tokens.place;
            }
            return false;
        }

        private void start() {
            target.clear();
            tokens.rewind();
            inLine = false;
            lines = 0;
            faultKind = SOUND;
        }

        /** The kind of the fault that the token is. */
        private int takeToken() {
            if (!inLine) {
                return takeWord();
            }
            return come < numbersOfLine() ? takeNumber() : takeStop();
        }

        private int takeWord() {
            boolean canCome = lines == 0 ? tokens.kind == Tokens.GOODS
                    : tokens.kind > Tokens.GOODS && tokens.kind >= sort;
            if (!canCome) {
                return NO_TOKEN;
            }
            sort = tokens.kind;
            come = 0;
            inLine = true;
            return isRoomForLine() ? SOUND : TOO_MANY;
        }

        private boolean isRoomForLine() {
            switch (sort) {
                case Tokens.CUSTOMER: return target.customers < CUSTOMERS_MAX;
                case Tokens.LOT: return target.lots < TEXT_LOTS_MAX;
                case Tokens.ORDER: return target.orders < TEXT_ORDERS_MAX;
                default: return true;
            }
        }

        private int numbersOfLine() {
            return sort == Tokens.LOT || sort == Tokens.ORDER ? LINE_NUMBERS_MAX : 1;
        }

        private int takeNumber() {
            if (tokens.kind != Tokens.NUMBER) {
                return NO_TOKEN;
            }
            if (!isAsTold(tokens.value)) {
                return WRONG_NUMBER;
            }
            numbers[come] = tokens.value;
            come++;
            return SOUND;
        }

        /** Where 99 is the most nothing is tested: two digits never tell more. */
        private boolean isAsTold(int value) {
            switch (sort) {
                case Tokens.GOODS: return value >= 1 && value <= GOODS_MAX;
                case Tokens.LOT: return isAsToldOfLot(value);
                case Tokens.ORDER: return isAsToldOfOrder(value);
                default: return true;
            }
        }

        private boolean isAsToldOfLot(int value) {
            switch (come) {
                case 0: return target.hasGood(value);
                case 2: return isSum(value);
                default: return true;
            }
        }

        private boolean isAsToldOfOrder(int value) {
            switch (come) {
                case 0: return target.hasCustomer(value);
                case 1: return target.hasGood(value) && target.openOrder(numbers[0], value) == NONE;
                case 2: return isSum(value);
                default: return true;
            }
        }

        private int takeStop() {
            if (tokens.kind != Tokens.STOP) {
                return NO_TOKEN;
            }
            addLine();
            inLine = false;
            lines++;
            return SOUND;
        }

        private void addLine() {
            switch (sort) {
                case Tokens.CUSTOMER:
                    target.addCustomer(numbers[0]);
                    break;
                case Tokens.LOT:
                    target.addLot(numbers[0], numbers[1], numbers[2], numbers[3]);
                    break;
                case Tokens.ORDER:
                    target.addOrder(numbers[0], numbers[1], numbers[2], numbers[3]);
                    break;
                default:
                    target.goods = numbers[0];
                    break;
            }
        }
    }

    /** All that a text tells and acts change. */
    private static final class Stock {
        // One row more than orders there can be, for the order that is only asked about.
        private static final int ORDER_ROWS = ORDERS_MAX + 1;

        int today;
        int goods;
        int customers;
        int lots;
        int orders;
        int wasted;
        int handedOut;
        final int[] life = new int[CUSTOMERS_MAX];
        private final int[] latest = new int[CUSTOMERS_MAX * GOODS_MAX];
        final int[] lotGood = new int[LOTS_MAX];
        final int[] lotExpiry = new int[LOTS_MAX];
        final int[] lotLeft = new int[LOTS_MAX];
        final int[] lotHold = new int[LOTS_MAX];
        final int[] orderCustomer = new int[ORDER_ROWS];
        final int[] orderGood = new int[ORDER_ROWS];
        final int[] orderSum = new int[ORDER_ROWS];
        final int[] orderDay = new int[ORDER_ROWS];
        final int[] orderState = new int[ORDER_ROWS];
        final int[] orderGot = new int[ORDER_ROWS];
        // By lot and customer, not by lot and order: a customer has one open order for a good at most,
        // so that the small table tells as much and is quickly kept for undo.
        private final int[] reservedCells = new int[LOTS_MAX * CUSTOMERS_MAX];

        void clear() {
            today = 0;
            goods = 0;
            customers = 0;
            lots = 0;
            orders = 0;
            wasted = 0;
            handedOut = 0;
            for (int i = 0; i < latest.length; i++) {
                latest[i] = NONE;
            }
            for (int i = 0; i < reservedCells.length; i++) {
                reservedCells[i] = 0;
            }
        }

        void copyFrom(Stock other) {
            today = other.today;
            goods = other.goods;
            customers = other.customers;
            lots = other.lots;
            orders = other.orders;
            wasted = other.wasted;
            handedOut = other.handedOut;
            copyRow(other.life, life);
            copyRow(other.latest, latest);
            copyRow(other.lotGood, lotGood);
            copyRow(other.lotExpiry, lotExpiry);
            copyRow(other.lotLeft, lotLeft);
            copyRow(other.lotHold, lotHold);
            copyRow(other.orderCustomer, orderCustomer);
            copyRow(other.orderGood, orderGood);
            copyRow(other.orderSum, orderSum);
            copyRow(other.orderDay, orderDay);
            copyRow(other.orderState, orderState);
            copyRow(other.orderGot, orderGot);
            copyRow(other.reservedCells, reservedCells);
        }

        private static void copyRow(int[] from, int[] to) {
            System.arraycopy(from, 0, to, 0, Math.min(from.length, to.length));
        }

        boolean hasGood(int good) {
            return good >= 0 && good < goods;
        }

        boolean hasCustomer(int customer) {
            return customer >= 0 && customer < customers;
        }

        boolean hasLot(int lot) {
            return lot >= 0 && lot < lots;
        }

        boolean hasOrder(int order) {
            return order >= 0 && order < orders;
        }

        boolean isOpen(int order) {
            return hasOrder(order) && orderState[order] == OPEN;
        }

        boolean isAhead(int day) {
            return day >= today && day <= today + NUMBER_MAX;
        }

        void addCustomer(int wantedLife) {
            if (customers < CUSTOMERS_MAX) {
                life[customers] = wantedLife;
                customers++;
            }
        }

        int addLot(int good, int expiry, int sum, int hold) {
            if (lots >= LOTS_MAX) {
                return NONE;
            }
            lotGood[lots] = good;
            lotExpiry[lots] = expiry;
            lotLeft[lots] = sum;
            lotHold[lots] = hold;
            return lots++;
        }

        int addOrder(int customer, int good, int sum, int day) {
            if (orders >= ORDER_ROWS) {
                return NONE;
            }
            orderCustomer[orders] = customer;
            orderGood[orders] = good;
            orderSum[orders] = sum;
            orderDay[orders] = day;
            orderState[orders] = OPEN;
            orderGot[orders] = 0;
            return orders++;
        }

        int countOpen() {
            int count = 0;
            for (int order = 0; order < orders; order++) {
                count += orderState[order] == OPEN ? 1 : 0;
            }
            return count;
        }

        int sumLeft() {
            int sum = 0;
            for (int lot = 0; lot < lots; lot++) {
                sum += lotLeft[lot];
            }
            return sum;
        }

        int sumReserved() {
            int sum = 0;
            for (int lot = 0; lot < lots; lot++) {
                sum += reservedOfLot(lot);
            }
            return sum;
        }

        int openOrder(int customer, int good) {
            for (int order = 0; order < orders; order++) {
                if (orderCustomer[order] == customer && orderGood[order] == good && orderState[order] == OPEN) {
                    return order;
                }
            }
            return NONE;
        }

        int latestOf(int customer, int good) {
            return latest[customer * GOODS_MAX + good];
        }

        boolean fits(int lot, int order) {
            int customer = orderCustomer[order];
            return lotGood[lot] == orderGood[order]
                    && lotExpiry[lot] - orderDay[order] >= life[customer]
                    && lotExpiry[lot] >= latestOf(customer, orderGood[order])
                    && lotHold[lot] <= orderDay[order];
        }

        int reservedFor(int lot, int order) {
            if (orderState[order] != OPEN || lotGood[lot] != orderGood[order]) {
                return 0;
            }
            return reservedCells[cell(lot, order)];
        }

        /** Only for an open order and a lot of its good: another order's cell may be the same. */
        void setReserved(int lot, int order, int sum) {
            reservedCells[cell(lot, order)] = sum;
        }

        private int cell(int lot, int order) {
            return lot * CUSTOMERS_MAX + orderCustomer[order];
        }

        int reservedOfLot(int lot) {
            int sum = 0;
            for (int customer = 0; customer < customers; customer++) {
                sum += reservedCells[lot * CUSTOMERS_MAX + customer];
            }
            return sum;
        }

        int reservedForOrder(int order) {
            int sum = 0;
            for (int lot = 0; lot < lots; lot++) {
                sum += reservedFor(lot, order);
            }
            return sum;
        }

        /** An open order is so from now on, and nothing is reserved for it: how much that was. */
        int close(int order, int state) {
            int sum = 0;
            for (int lot = 0; lot < lots; lot++) {
                sum += release(lot, order);
            }
            orderState[order] = state;
            return sum;
        }

        private int release(int lot, int order) {
            int sum = reservedFor(lot, order);
            if (sum > 0) {
                setReserved(lot, order, 0);
            }
            return sum;
        }

        int releaseUnfit(int lot) {
            int sum = 0;
            for (int order = 0; order < orders; order++) {
                if (!fits(lot, order)) {
                    sum += release(lot, order);
                }
            }
            return sum;
        }

        int handOut(int order) {
            int youngest = NONE;
            for (int lot = 0; lot < lots; lot++) {
                int sum = reservedFor(lot, order);
                if (sum > 0) {
                    lotLeft[lot] -= sum;
                    youngest = Math.max(youngest, lotExpiry[lot]);
                }
            }
            int got = close(order, DELIVERED);
            orderGot[order] = got;
            latest[orderCustomer[order] * GOODS_MAX + orderGood[order]] = youngest;
            handedOut += got;
            return got;
        }

        void endDay() {
            for (int order = 0; order < orders; order++) {
                if (orderState[order] == OPEN && orderDay[order] == today) {
                    close(order, LAPSED);
                }
            }
            for (int lot = 0; lot < lots; lot++) {
                if (lotExpiry[lot] == today) {
                    writeOff(lot);
                }
            }
            today++;
        }

        private void writeOff(int lot) {
            wasted += lotLeft[lot];
            lotLeft[lot] = 0;
            for (int customer = 0; customer < CUSTOMERS_MAX; customer++) {
                reservedCells[lot * CUSTOMERS_MAX + customer] = 0;
            }
        }
    }

    /** The stocks ahead of the latest acts, in a ring whose rows are used again. */
    private static final class Past {
        private final Stock[] stocks = new Stock[UNDO_MAX];
        private int next;
        int count;

        Past() {
            for (int i = 0; i < UNDO_MAX; i++) {
                stocks[i] = new Stock();
            }
        }

        void keep(Stock stock) {
            stocks[next].copyFrom(stock);
            next = next + 1 < UNDO_MAX ? next + 1 : 0;
            count = Math.min(count + 1, UNDO_MAX);
        }

        void bringBack(Stock stock) {
            next = next > 0 ? next - 1 : UNDO_MAX - 1;
            count--;
            stock.copyFrom(stocks[next]);
        }

        void forget() {
            count = 0;
        }
    }

    /**
     * The plan of a good: each order in turn takes what it still wants of each lot by age that suits it.
     *
     * No taking back is needed. An order that suits a younger lot B as well as an older lot A may as well take A: an
     * order behind it that A suits, B suits too, for B expires no sooner, and B's hold is over on the first order's day
     * and so on the later one's. So in any way to reserve that takes otherwise, the first place where it does can be
     * mended (by taking more, by taking A for B, or by changing A for B with an order behind) and the way is better.
     */
    private static final class Planner {
        private Stock stock;
        private int lots;
        private int orders;
        // Lots stand here by age, orders by turn.
        private final int[] lotNumber = new int[LOTS_MAX];
        private final int[] lotRest = new int[LOTS_MAX];
        private final int[] orderNumber = new int[CUSTOMERS_MAX];
        private final int[] share = new int[LOTS_MAX * CUSTOMERS_MAX];

        Planner(Stock stock) {
            this.stock = stock;
        }

        void make(Stock of, int good) {
            stock = of;
            gatherLots(good);
            gatherOrders(good);
            for (int turn = 0; turn < orders; turn++) {
                serve(turn);
            }
        }

        int grantOf(int order) {
            int turn = turnOf(order);
            int sum = 0;
            for (int age = 0; age < lots && turn != NONE; age++) {
                sum += share[cell(age, turn)];
            }
            return sum;
        }

        int shareOf(int lot, int order) {
            int turn = turnOf(order);
            for (int age = 0; age < lots && turn != NONE; age++) {
                if (lotNumber[age] == lot) {
                    return share[cell(age, turn)];
                }
            }
            return 0;
        }

        int sumRestTo(int day) {
            int sum = 0;
            for (int age = 0; age < lots; age++) {
                if (stock.lotExpiry[lotNumber[age]] <= day) {
                    sum += lotRest[age];
                }
            }
            return sum;
        }

        /** Puts the plan in place of what is reserved: how much is so no more. */
        int reserveAll() {
            int sum = 0;
            for (int age = 0; age < lots; age++) {
                for (int turn = 0; turn < orders; turn++) {
                    int planned = share[cell(age, turn)];
                    int before = stock.reservedFor(lotNumber[age], orderNumber[turn]);
                    sum += Math.max(0, before - planned);
                    stock.setReserved(lotNumber[age], orderNumber[turn], planned);
                }
            }
            return sum;
        }

        private static int cell(int age, int turn) {
            return age * CUSTOMERS_MAX + turn;
        }

        private int turnOf(int order) {
            for (int turn = 0; turn < orders; turn++) {
                if (orderNumber[turn] == order) {
                    return turn;
                }
            }
            return NONE;
        }

        private void gatherLots(int good) {
            lots = 0;
            for (int lot = 0; lot < stock.lots; lot++) {
                if (stock.lotGood[lot] == good) {
                    insertLot(lot);
                }
            }
            for (int age = 0; age < lots; age++) {
                lotRest[age] = stock.lotLeft[lotNumber[age]];
            }
        }

        private void insertLot(int lot) {
            int age = lots;
            while (age > 0 && stock.lotExpiry[lotNumber[age - 1]] > stock.lotExpiry[lot]) {
                lotNumber[age] = lotNumber[age - 1];
                age--;
            }
            lotNumber[age] = lot;
            lots++;
        }

        /** There is room for all: a customer has one open order for a good at most. */
        private void gatherOrders(int good) {
            orders = 0;
            for (int order = 0; order < stock.orders; order++) {
                if (stock.orderGood[order] == good && stock.isOpen(order) && orders < CUSTOMERS_MAX) {
                    insertOrder(order);
                }
            }
        }

        private void insertOrder(int order) {
            int turn = orders;
            while (turn > 0 && stock.orderDay[orderNumber[turn - 1]] > stock.orderDay[order]) {
                orderNumber[turn] = orderNumber[turn - 1];
                turn--;
            }
            orderNumber[turn] = order;
            orders++;
        }

        private void serve(int turn) {
            int order = orderNumber[turn];
            int wanted = stock.orderSum[order];
            for (int age = 0; age < lots; age++) {
                int part = stock.fits(lotNumber[age], order) ? Math.min(wanted, lotRest[age]) : 0;
                share[cell(age, turn)] = part;
                lotRest[age] -= part;
                wanted -= part;
            }
        }
    }
}
