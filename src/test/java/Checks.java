import java.lang.reflect.InvocationTargetException;
import java.lang.reflect.Method;
import java.nio.charset.StandardCharsets;
import java.util.Arrays;
import java.util.Comparator;
import java.util.List;
import java.util.NoSuchElementException;

/** What the tests share: comparing answers, and bringing a text onto an object's tape. */
final class Checks {
    private static int wrong = 0;
    private static String test = "";

    private Checks() {
    }

    /** Runs every test of a class and ends: each is a method named after the promise or the terms it belongs to. */
    static void runAll(Class<?> type) {
        List<Method> tests = Arrays.stream(type.getDeclaredMethods())
                .filter(method -> method.getName().matches("(promise[0-9]+|terms)[A-Z0-9].*"))
                .sorted(Comparator.comparing(Method::getName)).toList();
        due("tests of " + type.getName(), tests.isEmpty(), false);
        for (Method method : tests) {
            test = method.getName() + ": ";
            run(method);
        }
        test = "";
        System.out.print(tests.size() + " tests, ");
        finish();
    }

    private static void run(Method method) {
        try {
            method.invoke(null);
        } catch (InvocationTargetException e) {
            wrong++;
            System.out.println(test + "stopped by " + e.getCause());
        } catch (IllegalAccessException e) {
            throw new IllegalStateException(e);
        }
    }

    static void due(String call, long got, long want) {
        if (got != want) {
            wrong++;
            System.out.println(test + call + " answered " + got + ", due is " + want);
        }
    }

    static void due(String call, boolean got, boolean want) {
        due(call, got ? 1 : 0, want ? 1 : 0);
    }

    /** What a lot tells, from what 0 on. */
    static void dueLot(FreshAllotter x, int lot, int... want) {
        for (int what = 0; what < want.length; what++) {
            due("lot(" + lot + ", " + what + ")", x.lot(lot, what), want[what]);
        }
    }

    /** What an order tells, from what 0 on. */
    static void dueOrder(FreshAllotter x, int order, int... want) {
        for (int what = 0; what < want.length; what++) {
            due("order(" + order + ", " + what + ")", x.order(order, what), want[what]);
        }
    }

    static void dueThrowsOfLot(FreshAllotter x, int lot, int what) {
        boolean thrown = false;
        try {
            x.lot(lot, what);
        } catch (NoSuchElementException e) {
            thrown = true;
        }
        due("lot(" + lot + ", " + what + ") throws", thrown, true);
    }

    static void dueThrowsOfOrder(FreshAllotter x, int order, int what) {
        boolean thrown = false;
        try {
            x.order(order, what);
        } catch (NoSuchElementException e) {
            thrown = true;
        }
        due("order(" + order + ", " + what + ") throws", thrown, true);
    }

    /** Ends the test: with exit code 1 if an answer was wrong. */
    static void finish() {
        System.out.println(wrong == 0 ? "all answers are as due" : wrong + " answers are not as due");
        if (wrong != 0) {
            System.exit(1);
        }
    }

    static int wrongSoFar() {
        return wrong;
    }

    /** Brings these bytes behind the tape, which needs room for whole twenties of them. */
    static void feedBytes(FreshAllotter x, byte[] bytes) {
        int size = x.now(11);
        for (int at = 0; at < bytes.length; at += 20) {
            byte[] twenty = Arrays.copyOfRange(bytes, at, at + 20);
            x.feed(number(twenty, 0), number(twenty, 4), number(twenty, 8), number(twenty, 12), number(twenty, 16));
        }
        x.end(size + bytes.length);
    }

    static void feedText(FreshAllotter x, String text) {
        feedBytes(x, text.getBytes(StandardCharsets.ISO_8859_1));
    }

    static int tell(FreshAllotter x, String text) {
        feedText(x, text);
        return x.text();
    }

    static FreshAllotter told(String text) {
        FreshAllotter x = new FreshAllotter();
        int lines = tell(x, text);
        due("text() of '" + text + "' is none with a fault", lines > 0, true);
        return x;
    }

    private static int number(byte[] bytes, int at) {
        return (bytes[at] & 255) << 24 | (bytes[at + 1] & 255) << 16 | (bytes[at + 2] & 255) << 8 | bytes[at + 3] & 255;
    }
}
