import java.util.NoSuchElementException;

/** A freshness allocator: dated lots of goods, reserved to orders for days to come. */
public final class FreshAllotter {
    public static final int NONE = -1;

    private static final int LOTS_FULL = -2;
    private static final int HAS_OPEN_ONE = -2;
    private static final int ORDERS_FULL = -3;
    private static final int BY_NO_DAYS = -2;

    private static final int GOODS_MAX = 4;
    private static final int CUSTOMERS_MAX = 6;
    private static final int TEXT_LOTS_MAX = 12;
    private static final int TEXT_ORDERS_MAX = 12;
    private static final int LOTS_MAX = 24;
    private static final int ORDERS_MAX = 40;
    private static final int NUMBER_MAX = 99;
    private static final int HOLD_MAX = 999;
    private static final int TODAY_MAX = 900;
    private static final int UNDO_MAX = 10;
    private static final int TEXT_MAX = 600;
    private static final int TAPE_MAX = 640;
    private static final int FEED_BYTES = 20;

    private static final int OPEN = 0;
    private static final int DELIVERED = 1;
    private static final int CANCELLED = 2;
    private static final int LAPSED = 3;

    private final Tape tape = new Tape();
    private final Stock stock = new Stock();
    private final Stock draft = new Stock();
    private final TextReader reader = new TextReader(tape, draft);
    private final Planner planner = new Planner(stock);
    private final Past past = new Past();

    public FreshAllotter() {
        stock.clear();
        stock.goods = 1;
    }

    public int feed(int a, int b, int c, int d, int e) {
        if (tape.size + FEED_BYTES > TAPE_MAX) {
            return NONE;
        }
        tape.put(a);
        tape.put(b);
        tape.put(c);
        tape.put(d);
        tape.put(e);
        return tape.size;
    }

    public boolean end(int n) {
        if (n < 0 || n > tape.size) {
            return false;
        }
        tape.size = n;
        return true;
    }

    public int text() {
        boolean sound = reader.readAll();
        tape.size = 0;
        if (!sound) {
            return -1 - reader.faultPlace;
        }
        stock.copyFrom(draft);
        past.forget();
        return reader.lines;
    }

    public int fault() {
        return reader.faultKind;
    }

    public int now(int what) {
        switch (what) {
            case 0: return stock.today;
            case 1: return stock.goods;
            case 2: return stock.customers;
            case 3: return stock.lots;
            case 4: return stock.orders;
            case 5: return stock.countOpen();
            case 6: return stock.sumLeft();
            case 7: return stock.sumReserved();
            case 8: return stock.wasted;
            case 9: return stock.handedOut;
            case 10: return past.count;
            case 11: return tape.size;
            default: return NONE;
        }
    }

    public int lot(int lot, int what) throws NoSuchElementException {
        if (!stock.hasLot(lot)) {
            throw new NoSuchElementException("no such lot");
        }
        switch (what) {
            case 0: return stock.lotGood[lot];
            case 1: return stock.lotExpiry[lot];
            case 2: return stock.lotLeft[lot];
            case 3: return stock.lotHold[lot];
            case 4: return stock.reservedOfLot(lot);
            default: throw new NoSuchElementException("a lot has no such number");
        }
    }

    public int order(int order, int what) throws NoSuchElementException {
        if (!stock.hasOrder(order)) {
            throw new NoSuchElementException("no such order");
        }
        switch (what) {
            case 0: return stock.orderCustomer[order];
            case 1: return stock.orderGood[order];
            case 2: return stock.orderSum[order];
            case 3: return stock.orderDay[order];
            case 4: return stock.orderState[order];
            case 5: return stock.reservedForOrder(order);
            case 6: return stock.orderGot[order];
            default: throw new NoSuchElementException("an order has no such number");
        }
    }

    public int reserved(int lot, int order) {
        if (!stock.hasLot(lot) || !stock.hasOrder(order)) {
            return NONE;
        }
        return stock.reservedFor(lot, order);
    }

    public int customer(int customer, int good) {
        if (!stock.hasCustomer(customer)) {
            return NONE;
        }
        if (good == NONE) {
            return stock.life[customer];
        }
        return stock.hasGood(good) ? stock.latestOf(customer, good) : NONE;
    }

    public boolean suits(int lot, int order) {
        return stock.hasLot(lot) && stock.isOpen(order) && stock.fits(lot, order);
    }

    public int plan(int lot, int order) {
        boolean ofAll = lot == NONE;
        if (!stock.isOpen(order) || !(ofAll || stock.hasLot(lot))) {
            return NONE;
        }
        planner.makeWhole(stock, stock.orderGood[order]);
        return ofAll ? planner.grantOf(order) : planner.shareOf(lot, order);
    }

    public int waste(int good, int day) {
        if (!stock.hasGood(good) || !stock.isAhead(day)) {
            return NONE;
        }
        int sum = 0;
        for (int lot = 0; lot < stock.lots; lot++) {
            if (stock.lotGood[lot] == good && stock.lotExpiry[lot] <= day) {
                sum += stock.lotLeft[lot] - stock.reservedOfLot(lot);
            }
        }
        return sum;
    }

    public int least(int good, int day) {
        if (!stock.hasGood(good) || !stock.isAhead(day)) {
            return NONE;
        }
        planner.makeWhole(stock, good);
        return planner.sumUnusedTo(day);
    }

    public int would(int customer, int good, int sum, int day) {
        if (!isOrder(customer, good, sum, day)) {
            return NONE;
        }
        if (stock.openOrder(customer, good) != NONE) {
            return HAS_OPEN_ONE;
        }
        draft.copyFrom(stock);
        int order = draft.addOrder(customer, good, sum, day);
        planner.makeGrants(draft, good);
        return planner.grantOf(order);
    }

    public int slack(int order) {
        if (!stock.isOpen(order)) {
            return NONE;
        }
        draft.copyFrom(stock);
        int enough = stock.life[stock.orderCustomer[order]];
        if (!isFilledWith(enough, order)) {
            return BY_NO_DAYS;
        }
        // Halving is right since an order never has less when its customer wants less life.
        int least = 0;
        for (int step = 0; step <= NUMBER_MAX && least < enough; step++) {
            int middle = (least + enough) / 2;
            if (isFilledWith(middle, order)) {
                enough = middle;
            } else {
                least = middle + 1;
            }
        }
        return enough;
    }

    public int comes(int good, int expiry, int sum, int hold) {
        if (!stock.hasGood(good) || !stock.isAhead(expiry) || !isSum(sum) || !isHold(hold)) {
            return NONE;
        }
        if (stock.lots >= LOTS_MAX) {
            return LOTS_FULL;
        }
        past.keep(stock);
        return stock.addLot(good, expiry, sum, hold);
    }

    public int asks(int customer, int good, int sum, int day) {
        if (!isOrder(customer, good, sum, day)) {
            return NONE;
        }
        if (stock.openOrder(customer, good) != NONE) {
            return HAS_OPEN_ONE;
        }
        if (stock.orders >= ORDERS_MAX) {
            return ORDERS_FULL;
        }
        past.keep(stock);
        return stock.addOrder(customer, good, sum, day);
    }

    public int reserve(int good) {
        if (!stock.hasGood(good)) {
            return NONE;
        }
        past.keep(stock);
        planner.makeWhole(stock, good);
        return planner.reserveAll();
    }

    public int cancel(int order) {
        if (!stock.isOpen(order)) {
            return NONE;
        }
        past.keep(stock);
        return stock.close(order, CANCELLED);
    }

    public int hold(int lot, int day) {
        if (!stock.hasLot(lot) || !isHold(day)) {
            return NONE;
        }
        past.keep(stock);
        stock.lotHold[lot] = day;
        return stock.releaseUnfit(lot);
    }

    public int deliver(int order) {
        if (!stock.isOpen(order) || stock.orderDay[order] != stock.today
                || stock.reservedForOrder(order) == 0) {
            return NONE;
        }
        past.keep(stock);
        return stock.handOut(order);
    }

    public int pass(int days) {
        if (days < 1 || days > NUMBER_MAX || stock.today + days > TODAY_MAX) {
            return NONE;
        }
        past.keep(stock);
        for (int day = 0; day < days; day++) {
            stock.endDay();
        }
        return stock.today;
    }

    public int undo() {
        if (past.count == 0) {
            return NONE;
        }
        past.bringBack(stock);
        return past.count;
    }

    private static boolean isSum(int sum) {
        return sum >= 1 && sum <= NUMBER_MAX;
    }

    private static boolean isHold(int day) {
        return day >= 0 && day <= HOLD_MAX;
    }

    private boolean isOrder(int customer, int good, int sum, int day) {
        return stock.hasCustomer(customer) && stock.hasGood(good) && isSum(sum) && stock.isAhead(day);
    }

    /** Whether an order would have its whole sum, did its customer want so many days less; the draft is the stock but for that. */
    private boolean isFilledWith(int daysLess, int order) {
        int customer = stock.orderCustomer[order];
        draft.life[customer] = stock.life[customer] - daysLess;
        planner.makeGrants(draft, stock.orderGood[order]);
        return planner.grantOf(order) == stock.orderSum[order];
    }

    /** The bytes that were fed. */
    private static final class Tape {
        final byte[] bytes = new byte[TAPE_MAX];
        int size;

        void put(int number) {
            for (int shift = 24; shift >= 0 && size < TAPE_MAX; shift -= 8) {
                bytes[size] = (byte) (number >> shift);
                size++;
            }
        }
    }

    /** Reads the tape token by token. */
    private static final class Tokens {
        static final int END = 0;
        static final int BAD = 1;
        static final int NUMBER = 2;
        static final int STOP = 3;
        // The kinds of words stand in the order in which their lines may come.
        static final int GOODS = 4;
        static final int CUSTOMER = 5;
        static final int LOT = 6;
        static final int ORDER = 7;

        private static final int DIGITS_MAX = 2;

        private final Tape tape;
        private int at;
        int kind;
        int place;
        int value;

        Tokens(Tape tape) {
            this.tape = tape;
        }

        void start() {
            at = 0;
        }

        void advance() {
            skipBlanks();
            place = at;
            if (tape.size > TEXT_MAX && at >= TEXT_MAX) {
                place = TEXT_MAX;
                kind = BAD;
            } else if (at >= tape.size) {
                kind = END;
            } else if (tape.bytes[at] == ';') {
                kind = STOP;
                at++;
            } else {
                readRun();
            }
        }

        private void skipBlanks() {
            while (at < tape.size && (tape.bytes[at] == ' ' || tape.bytes[at] == '\n')) {
                at++;
            }
        }

        private void readRun() {
            int letters = 0;
            int digits = 0;
            value = 0;
            while (at < tape.size && (isLetter(tape.bytes[at]) || isDigit(tape.bytes[at]))) {
                if (isLetter(tape.bytes[at])) {
                    letters++;
                } else {
                    digits++;
                    // Only the first two digits count: a longer run is no token.
                    value = digits <= DIGITS_MAX ? value * 10 + (tape.bytes[at] - '0') : value;
                }
                at++;
            }
            if (digits == 0) {
                kind = wordKind();
            } else {
                kind = letters == 0 && digits <= DIGITS_MAX ? NUMBER : BAD;
            }
        }

        /** A word that no line begins with can't come anywhere, so it is as bad as no token. */
        private int wordKind() {
            if (spells("goods")) {
                return GOODS;
            }
            if (spells("customer")) {
                return CUSTOMER;
            }
            if (spells("lot")) {
                return LOT;
            }
            return spells("order") ? ORDER : BAD;
        }

        private boolean spells(String word) {
            if (at - place != word.length()) {
                return false;
            }
            for (int i = 0; i < word.length(); i++) {
                if (tape.bytes[place + i] != word.charAt(i)) {
                    return false;
                }
            }
            return true;
        }

        private static boolean isLetter(int sign) {
            return sign >= 'a' && sign <= 'z';
        }

        private static boolean isDigit(int sign) {
            return sign >= '0' && sign <= '9';
        }
    }

    /** Reads the tape as a text, up to its first fault. */
    private static final class TextReader {
        private static final int NO_TOKEN = 1;
        private static final int WRONG_NUMBER = 2;
        private static final int TOO_MANY = 3;

        private final Tokens tokens;
        private final Stock target;
        int lines;
        int faultKind;
        int faultPlace;

        TextReader(Tape tape, Stock target) {
            tokens = new Tokens(tape);
            this.target = target;
        }

        boolean readAll() {
            target.clear();
            tokens.start();
            lines = 0;
            faultKind = 0;
            faultPlace = 0;
            return readGoods() && readFurtherLines();
        }

        private boolean readGoods() {
            tokens.advance();
            if (tokens.kind != Tokens.GOODS) {
                return refuse(NO_TOKEN);
            }
            int goods = readNumber(1, GOODS_MAX);
            if (goods == NONE || !readStop()) {
                return false;
            }
            target.goods = goods;
            lines = 1;
            return true;
        }

        private boolean readFurtherLines() {
            int least = Tokens.CUSTOMER;
            for (int line = 0; line < TAPE_MAX; line++) {
                tokens.advance();
                if (tokens.kind == Tokens.END) {
                    return true;
                }
                if (tokens.kind < least) {
                    return refuse(NO_TOKEN);
                }
                least = tokens.kind;
                if (!readLine(least)) {
                    return false;
                }
                lines++;
            }
            return refuse(NO_TOKEN);
        }

        private boolean readLine(int kind) {
            if (kind == Tokens.CUSTOMER) {
                return target.customers < CUSTOMERS_MAX ? readCustomer() : refuse(TOO_MANY);
            }
            if (kind == Tokens.LOT) {
                return target.lots < TEXT_LOTS_MAX ? readLot() : refuse(TOO_MANY);
            }
            return target.orders < TEXT_ORDERS_MAX ? readOrder() : refuse(TOO_MANY);
        }

        private boolean readCustomer() {
            int life = readNumber(0, NUMBER_MAX);
            if (life == NONE || !readStop()) {
                return false;
            }
            target.addCustomer(life);
            return true;
        }

        private boolean readLot() {
            int good = readNumber(0, target.goods - 1);
            if (good == NONE) {
                return false;
            }
            int expiry = readNumber(0, NUMBER_MAX);
            if (expiry == NONE) {
                return false;
            }
            int sum = readNumber(1, NUMBER_MAX);
            if (sum == NONE) {
                return false;
            }
            int hold = readNumber(0, NUMBER_MAX);
            if (hold == NONE || !readStop()) {
                return false;
            }
            target.addLot(good, expiry, sum, hold);
            return true;
        }

        private boolean readOrder() {
            int customer = readNumber(0, target.customers - 1);
            if (customer == NONE) {
                return false;
            }
            int good = readNumber(0, target.goods - 1);
            if (good == NONE) {
                return false;
            }
            if (target.openOrder(customer, good) != NONE) {
                return refuse(WRONG_NUMBER);
            }
            int sum = readNumber(1, NUMBER_MAX);
            if (sum == NONE) {
                return false;
            }
            int day = readNumber(0, NUMBER_MAX);
            if (day == NONE || !readStop()) {
                return false;
            }
            target.addOrder(customer, good, sum, day);
            return true;
        }

        /** The number that comes next; NONE with a fault. */
        private int readNumber(int least, int most) {
            tokens.advance();
            if (tokens.kind != Tokens.NUMBER) {
                refuse(NO_TOKEN);
                return NONE;
            }
            if (tokens.value < least || tokens.value > most) {
                refuse(WRONG_NUMBER);
                return NONE;
            }
            return tokens.value;
        }

        private boolean readStop() {
            tokens.advance();
            return tokens.kind == Tokens.STOP || refuse(NO_TOKEN);
        }

        private boolean refuse(int kind) {
            faultKind = kind;
            faultPlace = tokens.place;
            return false;
        }
    }

    /** All that a text tells and acts change. */
    private static final class Stock {
        // One row more than orders there can be, for the order that is only asked about.
        private static final int ORDER_ROWS = ORDERS_MAX + 1;

        int today;
        int goods;
        int customers;
        int lots;
        int orders;
        int wasted;
        int handedOut;
        final int[] life = new int[CUSTOMERS_MAX];
        private final int[] latest = new int[CUSTOMERS_MAX * GOODS_MAX];
        final int[] lotGood = new int[LOTS_MAX];
        final int[] lotExpiry = new int[LOTS_MAX];
        final int[] lotLeft = new int[LOTS_MAX];
        final int[] lotHold = new int[LOTS_MAX];
        final int[] orderCustomer = new int[ORDER_ROWS];
        final int[] orderGood = new int[ORDER_ROWS];
        final int[] orderSum = new int[ORDER_ROWS];
        final int[] orderDay = new int[ORDER_ROWS];
        final int[] orderState = new int[ORDER_ROWS];
        final int[] orderGot = new int[ORDER_ROWS];
        // By lot and customer, not by lot and order: a customer has one open order for a good at most,
        // so that the small table tells as much and is quickly kept for undo.
        private final int[] reservedCells = new int[LOTS_MAX * CUSTOMERS_MAX];

        void clear() {
            today = 0;
            goods = 0;
            customers = 0;
            lots = 0;
            orders = 0;
            wasted = 0;
            handedOut = 0;
            for (int i = 0; i < latest.length; i++) {
                latest[i] = NONE;
            }
            for (int i = 0; i < reservedCells.length; i++) {
                reservedCells[i] = 0;
            }
        }

        void copyFrom(Stock other) {
            today = other.today;
            goods = other.goods;
            customers = other.customers;
            lots = other.lots;
            orders = other.orders;
            wasted = other.wasted;
            handedOut = other.handedOut;
            copyRow(other.life, life);
            copyRow(other.latest, latest);
            copyRow(other.lotGood, lotGood);
            copyRow(other.lotExpiry, lotExpiry);
            copyRow(other.lotLeft, lotLeft);
            copyRow(other.lotHold, lotHold);
            copyRow(other.orderCustomer, orderCustomer);
            copyRow(other.orderGood, orderGood);
            copyRow(other.orderSum, orderSum);
            copyRow(other.orderDay, orderDay);
            copyRow(other.orderState, orderState);
            copyRow(other.orderGot, orderGot);
            copyRow(other.reservedCells, reservedCells);
        }

        private static void copyRow(int[] from, int[] to) {
            System.arraycopy(from, 0, to, 0, Math.min(from.length, to.length));
        }

        boolean hasGood(int good) {
            return good >= 0 && good < goods;
        }

        boolean hasCustomer(int customer) {
            return customer >= 0 && customer < customers;
        }

        boolean hasLot(int lot) {
            return lot >= 0 && lot < lots;
        }

        boolean hasOrder(int order) {
            return order >= 0 && order < orders;
        }

        boolean isOpen(int order) {
            return hasOrder(order) && orderState[order] == OPEN;
        }

        boolean isAhead(int day) {
            return day >= today && day <= today + NUMBER_MAX;
        }

        void addCustomer(int wantedLife) {
            if (customers < CUSTOMERS_MAX) {
                life[customers] = wantedLife;
                customers++;
            }
        }

        int addLot(int good, int expiry, int sum, int hold) {
            if (lots >= LOTS_MAX) {
                return NONE;
            }
            lotGood[lots] = good;
            lotExpiry[lots] = expiry;
            lotLeft[lots] = sum;
            lotHold[lots] = hold;
            return lots++;
        }

        int addOrder(int customer, int good, int sum, int day) {
            if (orders >= ORDER_ROWS) {
                return NONE;
            }
            orderCustomer[orders] = customer;
            orderGood[orders] = good;
            orderSum[orders] = sum;
            orderDay[orders] = day;
            orderState[orders] = OPEN;
            orderGot[orders] = 0;
            return orders++;
        }

        int countOpen() {
            int count = 0;
            for (int order = 0; order < orders; order++) {
                count += orderState[order] == OPEN ? 1 : 0;
            }
            return count;
        }

        int sumLeft() {
            int sum = 0;
            for (int lot = 0; lot < lots; lot++) {
                sum += lotLeft[lot];
            }
            return sum;
        }

        int sumReserved() {
            int sum = 0;
            for (int lot = 0; lot < lots; lot++) {
                sum += reservedOfLot(lot);
            }
            return sum;
        }

        int openOrder(int customer, int good) {
            for (int order = 0; order < orders; order++) {
                if (orderCustomer[order] == customer && orderGood[order] == good && orderState[order] == OPEN) {
                    return order;
                }
            }
            return NONE;
        }

        int latestOf(int customer, int good) {
            return latest[customer * GOODS_MAX + good];
        }

        boolean fits(int lot, int order) {
            int customer = orderCustomer[order];
            return lotGood[lot] == orderGood[order]
                    && lotExpiry[lot] - orderDay[order] >= life[customer]
                    && lotExpiry[lot] >= latestOf(customer, orderGood[order])
                    && lotHold[lot] <= orderDay[order];
        }

        int reservedFor(int lot, int order) {
            if (orderState[order] != OPEN || lotGood[lot] != orderGood[order]) {
                return 0;
            }
            return reservedCells[cell(lot, order)];
        }

        /** Only for an open order and a lot of its good: another order's cell may be the same. */
        void setReserved(int lot, int order, int sum) {
            reservedCells[cell(lot, order)] = sum;
        }

        private int cell(int lot, int order) {
            return lot * CUSTOMERS_MAX + orderCustomer[order];
        }

        int reservedOfLot(int lot) {
            int sum = 0;
            for (int customer = 0; customer < customers; customer++) {
                sum += reservedCells[lot * CUSTOMERS_MAX + customer];
            }
            return sum;
        }

        int reservedForOrder(int order) {
            int sum = 0;
            for (int lot = 0; lot < lots; lot++) {
                sum += reservedFor(lot, order);
            }
            return sum;
        }

        /** An open order is so from now on, and nothing is reserved for it: how much that was. */
        int close(int order, int state) {
            int sum = 0;
            for (int lot = 0; lot < lots; lot++) {
                sum += release(lot, order);
            }
            orderState[order] = state;
            return sum;
        }

        private int release(int lot, int order) {
            int sum = reservedFor(lot, order);
            if (sum > 0) {
                setReserved(lot, order, 0);
            }
            return sum;
        }

        int releaseUnfit(int lot) {
            int sum = 0;
            for (int order = 0; order < orders; order++) {
                if (!fits(lot, order)) {
                    sum += release(lot, order);
                }
            }
            return sum;
        }

        int handOut(int order) {
            int youngest = NONE;
            for (int lot = 0; lot < lots; lot++) {
                int sum = reservedFor(lot, order);
                if (sum > 0) {
                    lotLeft[lot] -= sum;
                    youngest = Math.max(youngest, lotExpiry[lot]);
                }
            }
            int got = close(order, DELIVERED);
            orderGot[order] = got;
            latest[orderCustomer[order] * GOODS_MAX + orderGood[order]] = youngest;
            handedOut += got;
            return got;
        }

        void endDay() {
            for (int order = 0; order < orders; order++) {
                if (orderState[order] == OPEN && orderDay[order] == today) {
                    close(order, LAPSED);
                }
            }
            for (int lot = 0; lot < lots; lot++) {
                if (lotExpiry[lot] == today) {
                    writeOff(lot);
                }
            }
            today++;
        }

        private void writeOff(int lot) {
            wasted += lotLeft[lot];
            lotLeft[lot] = 0;
            for (int customer = 0; customer < CUSTOMERS_MAX; customer++) {
                reservedCells[lot * CUSTOMERS_MAX + customer] = 0;
            }
        }
    }

    /** The stocks ahead of the latest acts, in a ring whose rows are used again. */
    private static final class Past {
        private final Stock[] stocks = new Stock[UNDO_MAX];
        private int next;
        int count;

        Past() {
            for (int i = 0; i < UNDO_MAX; i++) {
                stocks[i] = new Stock();
            }
        }

        void keep(Stock stock) {
            stocks[next].copyFrom(stock);
            next = next + 1 < UNDO_MAX ? next + 1 : 0;
            count = Math.min(count + 1, UNDO_MAX);
        }

        void bringBack(Stock stock) {
            next = next > 0 ? next - 1 : UNDO_MAX - 1;
            count--;
            stock.copyFrom(stocks[next]);
        }

        void forget() {
            count = 0;
        }
    }

    /**
     * The plan of a good. A good has six open orders at most (one of a customer), so that sets of orders,
     * as bits by their turn, can all be walked: what can be had is told by the tightest of these sets
     * (a flow is as great as the least cut), and no flow has to be searched for.
     */
    private static final class Planner {
        private static final int SETS = 1 << CUSTOMERS_MAX;

        private Stock stock;
        private int lots;
        private int orders;
        private int sets;
        // Lots stand here by age, orders by turn.
        private final int[] lotNumber = new int[LOTS_MAX];
        private final int[] orderNumber = new int[CUSTOMERS_MAX];
        // Which orders a lot suits; in splitting, of those only the orders that have no share of it as yet.
        private final int[] suited = new int[LOTS_MAX];
        private final int[] grant = new int[CUSTOMERS_MAX];
        private final int[] used = new int[LOTS_MAX];
        private final int[] share = new int[LOTS_MAX * CUSTOMERS_MAX];
        // What splitting has still to give: of a lot, to an order.
        private final int[] lotRest = new int[LOTS_MAX];
        private final int[] orderRest = new int[CUSTOMERS_MAX];
        // Of a set of orders: what is left of lots that suit any of it, the sum of its grants,
        // and how much of these grants is not bound to lots that suit no order outside it.
        private final int[] reach = new int[SETS];
        private final int[] granted = new int[SETS];
        private final int[] room = new int[SETS];

        Planner(Stock stock) {
            this.stock = stock;
        }

        /** The plan as far as how much each order has. */
        void makeGrants(Stock of, int good) {
            stock = of;
            gatherOrders(good);
            gatherLots(good);
            clearReach();
            for (int i = 0; i < lots; i++) {
                addReach(i);
            }
            granted[0] = 0;
            for (int turn = 0; turn < orders; turn++) {
                grantTo(turn);
            }
        }

        void makeWhole(Stock of, int good) {
            makeGrants(of, good);
            useLots();
            splitLots();
        }

        int grantOf(int order) {
            int turn = turnOf(order);
            return turn == NONE ? 0 : grant[turn];
        }

        int shareOf(int lot, int order) {
            int turn = turnOf(order);
            for (int i = 0; i < lots && turn != NONE; i++) {
                if (lotNumber[i] == lot) {
                    return share[i * CUSTOMERS_MAX + turn];
                }
            }
            return 0;
        }

        int sumUnusedTo(int day) {
            int sum = 0;
            for (int i = 0; i < lots; i++) {
                if (stock.lotExpiry[lotNumber[i]] <= day) {
                    sum += stock.lotLeft[lotNumber[i]] - used[i];
                }
            }
            return sum;
        }

        /** Puts the plan in place of what is reserved: how much is so no more. */
        int reserveAll() {
            int sum = 0;
            for (int i = 0; i < lots; i++) {
                for (int turn = 0; turn < orders; turn++) {
                    int planned = share[i * CUSTOMERS_MAX + turn];
                    int before = stock.reservedFor(lotNumber[i], orderNumber[turn]);
                    sum += Math.max(0, before - planned);
                    stock.setReserved(lotNumber[i], orderNumber[turn], planned);
                }
            }
            return sum;
        }

        private int turnOf(int order) {
            for (int turn = 0; turn < orders; turn++) {
                if (orderNumber[turn] == order) {
                    return turn;
                }
            }
            return NONE;
        }

        private void gatherOrders(int good) {
            orders = 0;
            for (int order = 0; order < stock.orders; order++) {
                if (stock.orderGood[order] == good && stock.isOpen(order) && orders < CUSTOMERS_MAX) {
                    int turn = orders;
                    while (turn > 0 && stock.orderDay[orderNumber[turn - 1]] > stock.orderDay[order]) {
                        orderNumber[turn] = orderNumber[turn - 1];
                        turn--;
                    }
                    orderNumber[turn] = order;
                    orders++;
                }
            }
            sets = 1 << orders;
        }

        private void gatherLots(int good) {
            lots = 0;
            for (int lot = 0; lot < stock.lots; lot++) {
                if (stock.lotGood[lot] == good) {
                    int age = lots;
                    while (age > 0 && stock.lotExpiry[lotNumber[age - 1]] > stock.lotExpiry[lot]) {
                        lotNumber[age] = lotNumber[age - 1];
                        age--;
                    }
                    lotNumber[age] = lot;
                    lots++;
                }
            }
            for (int i = 0; i < lots; i++) {
                suited[i] = suitedBy(lotNumber[i]);
            }
        }

        private int suitedBy(int lot) {
            int set = 0;
            for (int turn = 0; turn < orders; turn++) {
                if (stock.fits(lot, orderNumber[turn])) {
                    set |= 1 << turn;
                }
            }
            return set;
        }

        private void clearReach() {
            for (int set = 0; set < sets; set++) {
                reach[set] = 0;
            }
        }

        private void addReach(int lot) {
            int left = stock.lotLeft[lotNumber[lot]];
            for (int set = 0; set < sets; set++) {
                if ((suited[lot] & set) != 0) {
                    reach[set] += left;
                }
            }
        }

        /** An order has most if no set of it and orders ahead has more than the lots that suit any of them. */
        private void grantTo(int turn) {
            int bit = 1 << turn;
            int most = stock.orderSum[orderNumber[turn]];
            for (int ahead = 0; ahead < bit; ahead++) {
                most = Math.min(most, reach[ahead | bit] - granted[ahead]);
            }
            grant[turn] = most;
            for (int ahead = 0; ahead < bit; ahead++) {
                granted[ahead | bit] = granted[ahead] + most;
            }
        }

        /** Of each lot by age so much is used as the lots up to it can give more than those ahead of it. */
        private void useLots() {
            clearReach();
            int before = 0;
            for (int i = 0; i < lots; i++) {
                addReach(i);
                int most = granted[sets - 1];
                for (int set = 0; set < sets; set++) {
                    most = Math.min(most, reach[set] + granted[sets - 1 - set]);
                }
                used[i] = most - before;
                before = most;
            }
        }

        private void splitLots() {
            startRests();
            for (int turn = 0; turn < orders; turn++) {
                for (int i = 0; i < lots; i++) {
                    share[i * CUSTOMERS_MAX + turn] = (suited[i] & 1 << turn) != 0 ? giveShare(i, turn) : 0;
                }
            }
        }

        private void startRests() {
            for (int turn = 0; turn < orders; turn++) {
                orderRest[turn] = grant[turn];
            }
            for (int set = 0; set < sets; set++) {
                room[set] = granted[set];
            }
            for (int i = 0; i < lots; i++) {
                lotRest[i] = used[i];
                bind(i);
            }
        }

        /** What a lot has to give goes to the orders it suits: in a set that has all of them it takes room. */
        private void bind(int lot) {
            for (int set = 0; set < sets; set++) {
                if ((suited[lot] & ~set) == 0) {
                    room[set] -= lotRest[lot];
                }
            }
        }

        /** The most of a lot for an order by which all other rests can still be given; no more of it goes there later. */
        private int giveShare(int lot, int turn) {
            int bit = 1 << turn;
            int most = Math.min(lotRest[lot], orderRest[turn]);
            // Orders ahead have all their shares by now, so that only sets without them are looked at.
            for (int set = bit; set < sets; set += 2 * bit) {
                if ((suited[lot] & ~set) != 0) {
                    most = Math.min(most, room[set]);
                }
            }
            lotRest[lot] -= most;
            orderRest[turn] -= most;
            takeRoom(lot, bit, most);
            suited[lot] &= ~bit;
            return most;
        }

        /** Room as a share is given: a set with the order has less to give to, one without it may be bound to the rest. */
        private void takeRoom(int lot, int bit, int given) {
            int others = suited[lot] & ~bit;
            for (int set = 0; set < sets; set += 2 * bit) {
                if ((others & ~set) == 0) {
                    room[set] -= lotRest[lot];
                } else {
                    room[set | bit] -= given;
                }
            }
        }
    }
}
