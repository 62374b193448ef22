import java.lang.reflect.InvocationTargetException;
import java.lang.reflect.Method;
import java.util.ArrayList;
import java.util.List;
import java.util.Random;

/** All promises: long runs of calls, each answered by CreditExchange as by PlainModel. */
public final class ModelTest {
    private static final int CALLS = 512;
    private static final int[] WILD = {-1, 0, 1, 2, 5, 6, 7, 8, 9, 10, 11, 12, 13, 50, 51, 60, 61, 98, 99, 100, 255,
        256, 999, 1000, 9999, 10000, Integer.MIN_VALUE, Integer.MIN_VALUE + 1, Integer.MAX_VALUE};
    private static final String[] ACTIONS = {"bid", "bid", "bid", "ask", "ask", "askShort", "askShort", "withdraw",
        "push", "push", "tick", "tick", "deposit", "setRate", "setWidth", "undo", "save", "restore"};
    private static final String[] QUESTIONS = {"about", "tenant", "tenant", "tenant", "message", "order", "order",
        "demand", "supply", "auction", "volumeIf", "priceFor", "share", "share", "ahead", "ahead", "sentAfter",
        "unused", "fairness", "wealthiest", "runScript", "runScript", "simulate"};

    private final Random random;
    private final CreditExchange real = new CreditExchange();
    private final PlainModel model = new PlainModel();
    private final List<String> told = new ArrayList<>();
    private boolean wrong = false;

    private ModelTest(long seed) {
        random = new Random(seed);
    }

    public static void main(String[] args) throws Exception {
        int runs = args.length > 0 ? Integer.parseInt(args[0]) : 1500;
        int from = args.length > 1 ? Integer.parseInt(args[1]) : 0;
        for (int run = from; run < from + runs; run++) {
            ModelTest test = new ModelTest(run);
            test.play();
            Check.that("run " + run + " went wrong", !test.wrong);
        }
        Check.end();
    }

    private int below(int n) {
        return random.nextInt(n);
    }

    private int from(int least, int most) {
        return least + random.nextInt(most - least + 1);
    }

    private void play() throws Exception {
        int left = CALLS;
        if (below(12) > 0) {
            left -= typeText(exchangeText());
            left -= 1;
            call("load");
        }
        int trade = from(1, 30);
        int busy = from(2, 9);
        while (left > 0 && !wrong) {
            left--;
            if (below(100) == 0 && left > 60) {
                call("clearText");
                left -= 1 + typeText(below(2) == 0 ? brokenText() : exchangeText());
                call("errorPosition");
                left -= 2;
                call("load");
            } else if (below(40) == 0) {
                wildCall();
            } else if (below(10) < busy) {
                action(trade);
            } else {
                question();
            }
        }
    }

    private String exchangeText() {
        int tenants = from(1, 6);
        StringBuilder text = new StringBuilder("L");
        text.append(String.format("%03d%02d%02d%02d", below(2) == 0 ? from(1, 60) : from(1, 999), from(1, below(2) == 0 ? 3 : 20),
                from(1, below(2) == 0 ? 6 : 50), below(3) == 0 ? 0 : from(0, below(2) == 0 ? 9 : 99)));
        for (int t = 0; t < tenants; t++) {
            text.append(String.format("t%03d%02d%04d", from(1, below(2) == 0 ? 40 : 999), from(0, below(2) == 0 ? 4 : 99),
                    below(3) == 0 ? from(0, 99) : from(0, 9999)));
        }
        for (int k = below(8); k > 0; k--) {
            text.append(String.format("m%d%02d", below(tenants), from(1, below(2) == 0 ? 12 : 99)));
        }
        return text.toString();
    }

    private String brokenText() {
        StringBuilder text = new StringBuilder(exchangeText());
        if (below(3) == 0) {
            int tenants = below(2) + 1;
            text.setLength(Math.min(text.length(), 10 + 10 * tenants));
            for (int k = from(6, 18); k > 0; k--) {
                text.append(String.format("m%d%02d", below(tenants), from(1, 99)));
            }
        }
        int place = below(text.length());
        String signs = "Ltm0123456789/:" + (char) 255;
        switch (below(4)) {
            case 0:
                text.setLength(place);
                break;
            case 1:
                text.setCharAt(place, signs.charAt(below(signs.length())));
                break;
            case 2:
                text.deleteCharAt(place);
                break;
            default:
                text.insert(place, signs.charAt(below(signs.length())));
                break;
        }
        return text.toString();
    }

    private int typeText(String text) throws Exception {
        int typed = Math.min(text.length(), 161);
        for (int i = 0; i < typed; i++) {
            call("append", (int) text.charAt(i));
        }
        return typed;
    }

    private int aTenant() {
        return below(60) == 0 ? from(-1, 7) : below(real.about(0));
    }

    private int price(int spread) {
        return Math.max(1, Math.min(99, 40 + from(-spread, spread)));
    }

    private int quantity() {
        return below(3) == 0 ? from(1, 99) : from(1, 20);
    }

    private void action(int spread) throws Exception {
        String name = ACTIONS[below(ACTIONS.length)];
        switch (name) {
            case "bid":
            case "ask":
            case "askShort":
                call(name, aTenant(), price(spread), quantity());
                break;
            case "withdraw":
                call(name, below(4) == 0 ? from(-1, 12) : below(1 + real.about(8)));
                break;
            case "push":
                call(name, aTenant(), quantity());
                break;
            case "tick":
                call(name, below(8) == 0 ? from(1, 50) : from(1, 3));
                break;
            case "deposit":
                call(name, aTenant(), from(1, below(3) == 0 ? 9999 : 300));
                break;
            case "setRate":
                call(name, aTenant(), from(0, below(3) == 0 ? 99 : 5));
                break;
            case "setWidth":
                call(name, from(1, below(3) == 0 ? 999 : 90));
                break;
            case "undo":
                for (int k = below(12) == 0 ? 15 : 1; k > 0; k--) {
                    call(name);
                }
                break;
            default:
                if (name.equals("save") || below(4) == 0) {
                    call(name, below(20) == 0 ? from(-1, 2) : below(2));
                }
                break;
        }
    }

    private void question() throws Exception {
        String name = QUESTIONS[below(QUESTIONS.length)];
        switch (name) {
            case "about":
                call(name, from(0, 9));
                break;
            case "tenant":
                call(name, aTenant(), from(0, 11));
                break;
            case "message":
            case "sentAfter":
                call(name, aTenant(), from(0, 7));
                break;
            case "order":
                call(name, below(1 + real.about(8)), from(0, 4));
                break;
            case "demand":
            case "supply":
            case "priceFor":
                call(name, from(1, 99));
                break;
            case "auction":
                call(name, from(0, 3));
                break;
            case "volumeIf":
                call(name, aTenant(), from(0, 2), price(30), quantity());
                break;
            case "share":
                call(name, aTenant(), random.nextBoolean());
                break;
            case "ahead":
                call(name, below(4) == 0 ? from(0, 99) : from(0, 12), aTenant(), from(0, 11));
                break;
            case "unused":
                call(name, from(1, 99));
                break;
            case "fairness":
                call(name, random.nextBoolean());
                break;
            case "wealthiest":
                call(name, aTenant());
                break;
            case "runScript":
                int n = from(1, 3);
                call(name, n, script(n));
                break;
            default:
                call(name, below(3) == 0 ? (long) from(-9, 9) : random.nextLong(), from(1, 60));
                break;
        }
    }

    private long script(int n) {
        long script = 0;
        for (int k = 0; k < n; k++) {
            script = script * 1000000 + group();
        }
        return below(20) == 0 ? random.nextLong() >> below(60) : script;
    }

    private int group() {
        int t = aTenant() & 7;
        switch (from(1, 9)) {
            case 1:
            case 2:
            case 3:
                return from(1, 3) * 100000 + t * 10000 + from(0, 60) * 100 + from(0, 40);
            case 4:
            case 5:
                return 400000 + from(0, 55) + (below(9) == 0 ? from(0, 99) * 100 : 0);
            case 6:
                return 500000 + t * 10000 + from(0, 99) + (below(9) == 0 ? from(0, 99) * 100 : 0);
            case 7:
                return from(6, 7) * 100000 + t * 10000 + from(0, below(2) == 0 ? 99 : 9999);
            case 8:
                return 800000 + Math.max(0, real.about(7)) + (below(9) == 0 ? from(0, 99) * 100 : 0);
            default:
                return below(1000000);
        }
    }

    private void wildCall() throws Exception {
        Method[] all = java.util.Arrays.stream(CreditExchange.class.getDeclaredMethods())
                .filter(m -> java.lang.reflect.Modifier.isPublic(m.getModifiers()))
                .sorted(java.util.Comparator.comparing(Method::getName)).toArray(Method[]::new);
        Method method = all[below(all.length)];
        Class<?>[] types = method.getParameterTypes();
        Object[] arguments = new Object[types.length];
        for (int k = 0; k < types.length; k++) {
            int wild = below(3) == 0 ? WILD[below(WILD.length)] : from(-1, 12);
            if (types[k] == boolean.class) {
                arguments[k] = random.nextBoolean();
            } else if (types[k] == long.class) {
                arguments[k] = below(2) == 0 ? (Object) (long) wild : (Object) random.nextLong();
            } else {
                arguments[k] = wild;
            }
        }
        call(method.getName(), arguments);
    }

    private void call(String name, Object... arguments) throws Exception {
        if (wrong) {
            return;
        }
        String got = answer(real, name, arguments);
        String want = answer(model, name, arguments);
        told.add(name + java.util.Arrays.toString(arguments) + " = " + got);
        if (!got.equals(want)) {
            wrong = true;
            told.forEach(System.out::println);
            System.out.println("due is " + want);
        }
    }

    private static String answer(Object object, String name, Object... arguments) throws Exception {
        for (Method method : object.getClass().getDeclaredMethods()) {
            if (method.getName().equals(name)) {
                try {
                    method.setAccessible(true);
                    return String.valueOf(method.invoke(object, arguments));
                } catch (InvocationTargetException e) {
                    Exception thrown = (Exception) e.getCause();
                    boolean byCode = object instanceof PlainModel || Check.isThrownByCode(thrown);
                    return (byCode ? "throws." : "machine.") + thrown.getClass().getSimpleName();
                }
            }
        }
        return "no method " + name;
    }
}
