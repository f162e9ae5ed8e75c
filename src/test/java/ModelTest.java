import java.nio.charset.StandardCharsets;
import java.util.Arrays;
import java.util.NoSuchElementException;
import java.util.Random;
import java.util.stream.IntStream;

/** Runs of calls by chance (of a fixed seed), each answer compared with that of the model: promises 1 to 24. */
public final class ModelTest {
    private static final int RUNS = 400;
    private static final int CALLS = 512;
    private static final int[] STRANGE = {-1, -2, 99, 100, 999, 1000, Integer.MIN_VALUE, Integer.MAX_VALUE};
    private static final String[] ACTS = {"comes", "comes", "asks", "asks", "asks", "asks", "reserve", "reserve", "reserve",
        "cancel", "hold", "hold", "deliver", "deliver", "deliver", "pass", "undo"};
    private static final String[] ASKED = {"now", "lot", "order", "reserved", "customer", "suits", "plan", "plan",
        "waste", "least", "would", "slack", "slack", "fault"};

    private final Random random;
    private final FreshAllotter x = new FreshAllotter();
    private final Model model = new Model();
    private final StringBuilder told = new StringBuilder();
    private int calls;
    private int dayWidth;

    private ModelTest(long seed) {
        random = new Random(seed);
        dayWidth = 1 + random.nextInt(random.nextInt(4) == 0 ? 60 : 12);
    }

    public static void main(String[] args) {
        for (int run = 0; run < RUNS && Checks.wrongSoFar() == 0; run++) {
            new ModelTest(run).run(run);
        }
        Checks.finish();
    }

    private void run(int seed) {
        boolean texts = random.nextInt(10) > 0;
        while (calls < CALLS && Checks.wrongSoFar() == 0) {
            if (texts && (calls == 0 || random.nextInt(150) == 0)) {
                tellText(calls == 0 ? wholeText() : mangled(wholeText()));
            } else if (random.nextInt(3) == 0) {
                step(ACTS[random.nextInt(ACTS.length)]);
            } else {
                step(ASKED[random.nextInt(ASKED.length)]);
            }
        }
        if (Checks.wrongSoFar() > 0) {
            System.out.println("seed " + seed + ", the calls:\n" + told);
        }
    }

    // ---- texts

    private String wholeText() {
        int goods = 1 + random.nextInt(random.nextBoolean() ? 1 : 4);
        int customers = random.nextInt(12) == 0 ? 0 : 1 + random.nextInt(6);
        StringBuilder text = new StringBuilder("goods " + goods + ";");
        for (int i = 0; i < customers; i++) {
            text.append("customer ").append(random.nextInt(1 + random.nextInt(dayWidth))).append(";");
        }
        int lots = random.nextInt(13);
        for (int i = 0; i < lots; i++) {
            text.append("lot ").append(random.nextInt(goods)).append(blank()).append(random.nextInt(Math.min(100, 2 * dayWidth)))
                    .append(blank()).append(1 + random.nextInt(99)).append(blank())
                    .append(random.nextInt(3) > 0 ? 0 : random.nextInt(dayWidth)).append(";");
        }
        boolean[] has = new boolean[customers * goods];
        for (int i = 0; i < 12 && customers > 0; i++) {
            int customer = random.nextInt(customers);
            int good = random.nextInt(goods);
            if (!has[customer * goods + good]) {
                has[customer * goods + good] = true;
                text.append("order ").append(customer).append(blank()).append(good).append(blank())
                        .append(1 + random.nextInt(99)).append(blank()).append(random.nextInt(dayWidth)).append(";");
            }
        }
        return text.toString();
    }

    private String blank() {
        return random.nextInt(20) == 0 ? "\n " : " ";
    }

    private String mangled(String text) {
        StringBuilder other = new StringBuilder(text);
        int times = random.nextInt(3);
        String[] bits = {";", " ", "1", "0", "99", "lot", "order ", "customer 1;", "lot 0 1 1 0;", "order 0 0 1 1;", "x", "\t",
            "goods", "customer 1;".repeat(7), "lot 0 1 1 0;".repeat(13), " ".repeat(300), "" + (char) 233};
        for (int i = 0; i < times; i++) {
            int at = random.nextInt(other.length() + 1);
            if (random.nextInt(3) == 0) {
                other.delete(at, Math.min(other.length(), at + 1 + random.nextInt(3)));
            } else if (random.nextInt(3) == 0) {
                int semicolon = other.indexOf(";", at);
                other.insert(semicolon < 0 ? 0 : semicolon + 1, bits[random.nextInt(bits.length)]);
            } else {
                other.insert(at, bits[random.nextInt(bits.length)]);
            }
        }
        return other.toString();
    }

    private void tellText(String text) {
        byte[] bytes = text.getBytes(StandardCharsets.ISO_8859_1);
        for (int at = 0; at < bytes.length; at += 20) {
            byte[] part = Arrays.copyOfRange(bytes, at, at + 20);
            int[] n = new int[5];
            for (int i = 0; i < 20; i++) {
                n[i / 4] = n[i / 4] << 8 | part[i] & 255;
            }
            call("feed", n);
        }
        call("end", Math.min(bytes.length, 640));
        call("text");
        call("fault");
    }

    // ---- calls

    private void step(String name) {
        int[] n;
        switch (name) {
            case "now": n = new int[] {random.nextInt(14) - 1}; break;
            case "lot": n = new int[] {lot(), random.nextInt(7) - 1}; break;
            case "order": n = new int[] {order(), random.nextInt(9) - 1}; break;
            case "reserved": case "suits": case "plan": n = new int[] {lot(), order()}; break;
            case "customer": n = new int[] {customer(), random.nextInt(3) == 0 ? -1 : good()}; break;
            case "waste": case "least": n = new int[] {good(), day()}; break;
            case "would": case "asks": n = new int[] {customer(), good(), sum(), day()}; break;
            case "slack": case "cancel": n = new int[] {order()}; break;
            case "deliver": n = new int[] {orderToDeliver()}; break;
            case "comes": n = new int[] {good(), day() + random.nextInt(dayWidth), sum(), hold()}; break;
            case "reserve": n = new int[] {good()}; break;
            case "hold": n = new int[] {lot(), hold()}; break;
            case "pass": n = new int[] {random.nextInt(8) > 0 ? 1 : strange(1 + random.nextInt(dayWidth))}; break;
            default: n = new int[0];
        }
        call(name, n);
    }

    private int strange(int usual) {
        return random.nextInt(40) == 0 ? STRANGE[random.nextInt(STRANGE.length)] : usual;
    }

    private int lot() {
        return strange(random.nextInt(8) == 0 ? -1 : random.nextInt((int) model.call("now", 3) + 1));
    }

    /** Open orders are asked for more often, as most others only answer that they are none. */
    private int order() {
        int orders = (int) model.call("now", 4);
        IntStream open = IntStream.range(0, orders).filter(order -> model.call("order", order, 4) == 0);
        return strange(random.nextInt(4) > 0 ? oneOf(open) : random.nextInt(orders + 1));
    }

    private int orderToDeliver() {
        IntStream ready = IntStream.range(0, (int) model.call("now", 4)).filter(order -> model.call("order", order, 5) > 0
                && model.call("order", order, 3) == model.call("now", 0));
        return random.nextInt(4) > 0 ? oneOf(ready) : order();
    }

    /** One of these numbers, 0 if there are none. */
    private int oneOf(IntStream numbers) {
        int[] all = numbers.toArray();
        return all.length == 0 ? 0 : all[random.nextInt(all.length)];
    }

    private int customer() {
        return strange(random.nextInt((int) model.call("now", 2) + (random.nextInt(10) == 0 ? 1 : 0) + 1) % 6);
    }

    private int good() {
        int goods = (int) model.call("now", 1);
        return strange(random.nextInt(10) == 0 ? goods : random.nextInt(goods));
    }

    private int sum() {
        return strange(1 + random.nextInt(random.nextBoolean() ? 99 : 20));
    }

    private int day() {
        return strange((int) model.call("now", 0) + random.nextInt(dayWidth));
    }

    private int hold() {
        return random.nextInt(3) > 0 ? 0 : day();
    }

    private void call(String name, int... n) {
        calls++;
        long got = onProgram(name, n);
        long want = model.call(name, n);
        String call = name + Arrays.toString(n);
        told.append(call).append(" = ").append(got).append('\n');
        Checks.due(call, got, want);
    }

    private long onProgram(String name, int[] n) {
        switch (name) {
            case "feed": return x.feed(n[0], n[1], n[2], n[3], n[4]);
            case "end": return x.end(n[0]) ? 1 : 0;
            case "text": return x.text();
            case "fault": return x.fault();
            case "now": return x.now(n[0]);
            case "lot": return lotOrThrows(n[0], n[1]);
            case "order": return orderOrThrows(n[0], n[1]);
            case "reserved": return x.reserved(n[0], n[1]);
            case "customer": return x.customer(n[0], n[1]);
            case "suits": return x.suits(n[0], n[1]) ? 1 : 0;
            case "plan": return x.plan(n[0], n[1]);
            case "waste": return x.waste(n[0], n[1]);
            case "least": return x.least(n[0], n[1]);
            case "would": return x.would(n[0], n[1], n[2], n[3]);
            case "slack": return x.slack(n[0]);
            case "comes": return x.comes(n[0], n[1], n[2], n[3]);
            case "asks": return x.asks(n[0], n[1], n[2], n[3]);
            case "reserve": return x.reserve(n[0]);
            case "cancel": return x.cancel(n[0]);
            case "hold": return x.hold(n[0], n[1]);
            case "deliver": return x.deliver(n[0]);
            case "pass": return x.pass(n[0]);
            case "undo": return x.undo();
            default: throw new IllegalArgumentException(name);
        }
    }

    private long lotOrThrows(int lot, int what) {
        try {
            return x.lot(lot, what);
        } catch (NoSuchElementException e) {
            return Model.THROWS;
        }
    }

    private long orderOrThrows(int order, int what) {
        try {
            return x.order(order, what);
        } catch (NoSuchElementException e) {
            return Model.THROWS;
        }
    }
}
