import java.util.ArrayList;
import java.util.Comparator;
import java.util.HashMap;
import java.util.List;
import java.util.Map;
import java.util.regex.Matcher;
import java.util.regex.Pattern;

/** The document once more, written for plainness alone, to compare the program with; an exception is answered THROWS. */
final class Model {
    static final long THROWS = Long.MIN_VALUE;

    private record Lot(int number, int good, int expiry, int left, int hold) {
    }

    private record Order(int number, int customer, int good, int sum, int day, int state, int got) {
    }

    private record Pair(int a, int b) {
    }

    private static final class State {
        int today;
        int goods = 1;
        int waste;
        int delivered;
        List<Integer> lives = new ArrayList<>();
        List<Lot> lots = new ArrayList<>();
        List<Order> orders = new ArrayList<>();
        Map<Pair, Integer> latest = new HashMap<>();
        Map<Pair, Integer> reserved = new HashMap<>();

        State copy() {
            State s = new State();
            s.today = today;
            s.goods = goods;
            s.waste = waste;
            s.delivered = delivered;
            s.lives.addAll(lives);
            s.lots.addAll(lots);
            s.orders.addAll(orders);
            s.latest.putAll(latest);
            s.reserved.putAll(reserved);
            return s;
        }
    }

    private State s = new State();
    private final List<State> past = new ArrayList<>();
    private String tape = "";
    private int fault;

    long call(String name, int... n) {
        switch (name) {
            case "feed": return feed(n);
            case "end": return end(n[0]);
            case "text": return text();
            case "fault": return fault;
            case "now": return now(n[0]);
            case "lot": return lot(n[0], n[1]);
            case "order": return order(n[0], n[1]);
            case "reserved": return isLot(n[0]) && isOrder(n[1]) ? reserved(n[0], n[1]) : -1;
            case "customer": return customer(n[0], n[1]);
            case "suits": return isLot(n[0]) && isOrder(n[1]) && suits(s, s.lots.get(n[0]), s.orders.get(n[1])) ? 1 : 0;
            case "plan": return plan(n[0], n[1]);
            case "waste": return waste(n[0], n[1], s.reserved);
            case "least": return isGood(n[0]) ? waste(n[0], n[1], planOf(s, n[0])) : -1;
            case "would": return would(n[0], n[1], n[2], n[3]);
            case "slack": return slack(n[0]);
            case "undo": return undo();
            default: return act(name, n);
        }
    }

    private long act(String name, int... n) {
        State before = s.copy();
        long answer;
        switch (name) {
            case "comes": answer = comes(n[0], n[1], n[2], n[3]); break;
            case "asks": answer = asks(n[0], n[1], n[2], n[3]); break;
            case "reserve": answer = reserve(n[0]); break;
            case "cancel": answer = isOpen(n[0]) ? close(n[0], 2, 0) : -1; break;
            case "hold": answer = hold(n[0], n[1]); break;
            case "deliver": answer = deliver(n[0]); break;
            case "pass": answer = pass(n[0]); break;
            default: throw new IllegalArgumentException(name);
        }
        if (answer >= 0) {
            past.add(before);
            if (past.size() > 10) {
                past.remove(0);
            }
        }
        return answer;
    }

    private long feed(int[] n) {
        if (tape.length() + 20 > 640) {
            return -1;
        }
        StringBuilder more = new StringBuilder(tape);
        for (int number : n) {
            for (int i = 3; i >= 0; i--) {
                more.append((char) (number >>> 8 * i & 255));
            }
        }
        tape = more.toString();
        return tape.length();
    }

    private long end(int n) {
        if (n < 0 || n > tape.length()) {
            return 0;
        }
        tape = tape.substring(0, n);
        return 1;
    }

    // ---- the text

    private record Token(String text, int at) {
        boolean isNumber() {
            return text.matches("[0-9]{1,2}");
        }
    }

    private static final class Fault extends RuntimeException {
        private static final long serialVersionUID = 1L;
        final int kind;
        final int at;

        Fault(int kind, int at) {
            this.kind = kind;
            this.at = at;
        }
    }

    private List<Token> tokens() {
        List<Token> list = new ArrayList<>();
        Matcher m = Pattern.compile("[a-z0-9]+|[^ \\n]", Pattern.DOTALL).matcher(tape);
        while (m.find()) {
            if (tape.length() > 600 && m.start() >= 600) {
                break;
            }
            list.add(new Token(m.group(), m.start()));
        }
        list.add(new Token("", Math.min(tape.length(), 600)));
        return list;
    }

    private long text() {
        List<Token> list = tokens();
        boolean tooLong = tape.length() > 600;
        tape = "";
        try {
            State told = new State();
            int lines = read(list, told);
            if (tooLong) {
                throw new Fault(1, 600);
            }
            s = told;
            past.clear();
            fault = 0;
            return lines;
        } catch (Fault f) {
            fault = f.kind;
            return -1 - f.at;
        }
    }

    private int read(List<Token> list, State t) {
        expect(list, "goods");
        t.goods = number(list, 1, 4);
        expect(list, ";");
        int lines = 1;
        int[] most = {6, 12, 12};
        String[] words = {"customer", "lot", "order"};
        for (int sort = 0; sort < 3; sort++) {
            for (int count = 0; list.get(0).text.equals(words[sort]); count++) {
                if (count == most[sort]) {
                    throw new Fault(3, list.get(0).at);
                }
                list.remove(0);
                if (sort == 0) {
                    t.lives.add(number(list, 0, 99));
                } else if (sort == 1) {
                    int good = number(list, 0, t.goods - 1);
                    int expiry = number(list, 0, 99);
                    int sum = number(list, 1, 99);
                    t.lots.add(new Lot(count, good, expiry, sum, number(list, 0, 99)));
                } else {
                    int customer = number(list, 0, t.lives.size() - 1);
                    int at = list.get(0).at;
                    int good = number(list, 0, t.goods - 1);
                    if (t.orders.stream().anyMatch(o -> o.customer == customer && o.good == good)) {
                        throw new Fault(2, at);
                    }
                    int sum = number(list, 1, 99);
                    t.orders.add(new Order(count, customer, good, sum, number(list, 0, 99), 0, 0));
                }
                expect(list, ";");
                lines++;
            }
        }
        expect(list, "");
        return lines;
    }

    private static void expect(List<Token> list, String text) {
        Token token = list.get(0);
        if (!token.text.equals(text)) {
            throw new Fault(1, token.at);
        }
        list.remove(0);
    }

    private static int number(List<Token> list, int least, int most) {
        Token token = list.get(0);
        if (!token.isNumber()) {
            throw new Fault(1, token.at);
        }
        int value = Integer.parseInt(token.text);
        if (value < least || value > most) {
            throw new Fault(2, token.at);
        }
        list.remove(0);
        return value;
    }

    // ---- what is told

    private boolean isGood(int n) {
        return n >= 0 && n < s.goods;
    }

    private boolean isCustomer(int n) {
        return n >= 0 && n < s.lives.size();
    }

    private boolean isLot(int n) {
        return n >= 0 && n < s.lots.size();
    }

    private boolean isOrder(int n) {
        return n >= 0 && n < s.orders.size();
    }

    private boolean isOpen(int n) {
        return isOrder(n) && s.orders.get(n).state == 0;
    }

    private boolean isDay(int day) {
        return day >= s.today && (long) day <= (long) s.today + 99;
    }

    private int reserved(int lot, int order) {
        return s.reserved.getOrDefault(new Pair(lot, order), 0);
    }

    private static boolean suits(State s, Lot lot, Order order) {
        return order.state == 0 && lot.good == order.good
                && lot.expiry - order.day >= s.lives.get(order.customer)
                && lot.expiry >= s.latest.getOrDefault(new Pair(order.customer, order.good), -1)
                && lot.hold <= order.day;
    }

    private long now(int what) {
        switch (what) {
            case 0: return s.today;
            case 1: return s.goods;
            case 2: return s.lives.size();
            case 3: return s.lots.size();
            case 4: return s.orders.size();
            case 5: return s.orders.stream().filter(o -> o.state == 0).count();
            case 6: return s.lots.stream().mapToInt(Lot::left).sum();
            case 7: return s.reserved.values().stream().mapToInt(n -> n).sum();
            case 8: return s.waste;
            case 9: return s.delivered;
            case 10: return past.size();
            case 11: return tape.length();
            default: return -1;
        }
    }

    private long lot(int n, int what) {
        if (!isLot(n) || what < 0 || what > 4) {
            return THROWS;
        }
        Lot lot = s.lots.get(n);
        int all = s.reserved.entrySet().stream().filter(e -> e.getKey().a == n).mapToInt(Map.Entry::getValue).sum();
        return new int[] {lot.good, lot.expiry, lot.left, lot.hold, all}[what];
    }

    private long order(int n, int what) {
        if (!isOrder(n) || what < 0 || what > 6) {
            return THROWS;
        }
        Order o = s.orders.get(n);
        int all = s.reserved.entrySet().stream().filter(e -> e.getKey().b == n).mapToInt(Map.Entry::getValue).sum();
        return new int[] {o.customer, o.good, o.sum, o.day, o.state, all, o.got}[what];
    }

    private long customer(int customer, int good) {
        if (!isCustomer(customer)) {
            return -1;
        }
        return good == -1 ? s.lives.get(customer) : s.latest.getOrDefault(new Pair(customer, good), -1);
    }

    // ---- the plan

    private static Map<Pair, Integer> planOf(State s, int good) {
        List<Order> orders = new ArrayList<>(s.orders);
        orders.removeIf(o -> o.good != good || o.state != 0);
        orders.sort(Comparator.comparing(Order::day).thenComparing(Order::number));
        List<Lot> lots = new ArrayList<>(s.lots);
        lots.removeIf(l -> l.good != good);
        lots.sort(Comparator.comparing(Lot::expiry).thenComparing(Lot::number));
        boolean[][] suits = new boolean[lots.size()][orders.size()];
        for (int i = 0; i < lots.size(); i++) {
            for (int k = 0; k < orders.size(); k++) {
                suits[i][k] = suits(s, lots.get(i), orders.get(k));
            }
        }
        int[] left = lots.stream().mapToInt(Lot::left).toArray();
        int[] sum = orders.stream().mapToInt(Order::sum).toArray();
        int[][] x = PlanModel.byRings(left, sum, suits);
        Map<Pair, Integer> plan = new HashMap<>();
        for (int i = 0; i < lots.size(); i++) {
            for (int k = 0; k < orders.size(); k++) {
                if (x[i][k] > 0) {
                    plan.put(new Pair(lots.get(i).number, orders.get(k).number), x[i][k]);
                }
            }
        }
        return plan;
    }

    private static int hasBy(Map<Pair, Integer> plan, int order) {
        return plan.entrySet().stream().filter(e -> e.getKey().b == order).mapToInt(Map.Entry::getValue).sum();
    }

    private long plan(int lot, int order) {
        if (!isOpen(order) || lot != -1 && !isLot(lot)) {
            return -1;
        }
        Map<Pair, Integer> plan = planOf(s, s.orders.get(order).good);
        return lot == -1 ? hasBy(plan, order) : plan.getOrDefault(new Pair(lot, order), 0);
    }

    private long waste(int good, int day, Map<Pair, Integer> reserved) {
        if (!isGood(good) || !isDay(day)) {
            return -1;
        }
        int sum = 0;
        for (Lot lot : s.lots) {
            if (lot.good == good && lot.expiry <= day) {
                sum += lot.left;
                for (Order order : s.orders) {
                    sum -= reserved.getOrDefault(new Pair(lot.number, order.number), 0);
                }
            }
        }
        return sum;
    }

    private boolean isRightOrder(int customer, int good, int sum, int day) {
        return isCustomer(customer) && isGood(good) && sum >= 1 && sum <= 99 && isDay(day);
    }

    private boolean hasOpenOne(int customer, int good) {
        return s.orders.stream().anyMatch(o -> o.customer == customer && o.good == good && o.state == 0);
    }

    private long would(int customer, int good, int sum, int day) {
        if (!isRightOrder(customer, good, sum, day)) {
            return -1;
        }
        if (hasOpenOne(customer, good)) {
            return -2;
        }
        State with = s.copy();
        with.orders.add(new Order(s.orders.size(), customer, good, sum, day, 0, 0));
        return hasBy(planOf(with, good), s.orders.size());
    }

    private long slack(int order) {
        if (!isOpen(order)) {
            return -1;
        }
        Order o = s.orders.get(order);
        State with = s.copy();
        for (int days = 0; days <= s.lives.get(o.customer); days++) {
            with.lives.set(o.customer, s.lives.get(o.customer) - days);
            if (hasBy(planOf(with, o.good), order) == o.sum) {
                return days;
            }
        }
        return -2;
    }

    // ---- the acts

    private long comes(int good, int expiry, int sum, int hold) {
        if (!isGood(good) || !isDay(expiry) || sum < 1 || sum > 99 || hold < 0 || hold > 999) {
            return -1;
        }
        if (s.lots.size() == 24) {
            return -2;
        }
        s.lots.add(new Lot(s.lots.size(), good, expiry, sum, hold));
        return s.lots.size() - 1;
    }

    private long asks(int customer, int good, int sum, int day) {
        if (!isRightOrder(customer, good, sum, day)) {
            return -1;
        }
        if (hasOpenOne(customer, good)) {
            return -2;
        }
        if (s.orders.size() == 40) {
            return -3;
        }
        s.orders.add(new Order(s.orders.size(), customer, good, sum, day, 0, 0));
        return s.orders.size() - 1;
    }

    private long reserve(int good) {
        if (!isGood(good)) {
            return -1;
        }
        Map<Pair, Integer> plan = planOf(s, good);
        long less = 0;
        for (Lot lot : s.lots) {
            if (lot.good == good) {
                for (Order order : s.orders) {
                    Pair pair = new Pair(lot.number, order.number);
                    less += Math.max(0, s.reserved.getOrDefault(pair, 0) - plan.getOrDefault(pair, 0));
                    s.reserved.remove(pair);
                }
            }
        }
        s.reserved.putAll(plan);
        return less;
    }

    private long close(int order, int state, int got) {
        long released = hasBy(s.reserved, order);
        s.reserved.keySet().removeIf(p -> p.b == order);
        Order o = s.orders.get(order);
        s.orders.set(order, new Order(order, o.customer, o.good, o.sum, o.day, state, got));
        return released;
    }

    private void setLot(int n, int left, int hold) {
        Lot lot = s.lots.get(n);
        s.lots.set(n, new Lot(n, lot.good, lot.expiry, left, hold));
    }

    private long hold(int n, int day) {
        if (!isLot(n) || day < 0 || day > 999) {
            return -1;
        }
        setLot(n, s.lots.get(n).left, day);
        long released = 0;
        for (Order order : s.orders) {
            if (!suits(s, s.lots.get(n), order)) {
                Integer was = s.reserved.remove(new Pair(n, order.number));
                released += was == null ? 0 : was;
            }
        }
        return released;
    }

    private long deliver(int order) {
        int sum = hasBy(s.reserved, order);
        if (!isOpen(order) || s.orders.get(order).day != s.today || sum == 0) {
            return -1;
        }
        Order o = s.orders.get(order);
        int latest = -1;
        for (Lot lot : List.copyOf(s.lots)) {
            int part = reserved(lot.number, order);
            if (part > 0) {
                setLot(lot.number, lot.left - part, lot.hold);
                latest = Math.max(latest, lot.expiry);
            }
        }
        s.latest.put(new Pair(o.customer, o.good), latest);
        close(order, 1, sum);
        s.delivered += sum;
        return sum;
    }

    private long pass(int days) {
        if (days < 1 || days > 99 || s.today + days > 900) {
            return -1;
        }
        for (int i = 0; i < days; i++) {
            for (Order order : List.copyOf(s.orders)) {
                if (order.state == 0 && order.day == s.today) {
                    close(order.number, 3, 0);
                }
            }
            for (Lot lot : List.copyOf(s.lots)) {
                if (lot.expiry == s.today) {
                    s.waste += lot.left;
                    setLot(lot.number, 0, lot.hold);
                    s.reserved.keySet().removeIf(p -> p.a == lot.number);
                }
            }
            s.today++;
        }
        return s.today;
    }

    private long undo() {
        if (past.isEmpty()) {
            return -1;
        }
        s = past.remove(past.size() - 1);
        return past.size();
    }
}
