import java.math.BigInteger;
import java.util.ArrayDeque;
import java.util.ArrayList;
import java.util.Comparator;
import java.util.Deque;
import java.util.List;
import java.util.regex.Matcher;
import java.util.regex.Pattern;

/**
 * The document once more, as literally as possible and without a thought for speed or room: debts are
 * a list, an auction matches credit by credit, shares go through all orders of coming. It is there to
 * be compared with CreditExchange.
 */
final class PlainModel {
    private static final int NONE = -9;
    private static final Pattern GRAMMAR = Pattern.compile(
            "L(00[1-9]|0[1-9]\\d|[1-9]\\d\\d)(0[1-9]|1\\d|20)(0[1-9]|[1-4]\\d|50)(\\d\\d)"
            + "((?:t(?:00[1-9]|0[1-9]\\d|[1-9]\\d\\d)\\d\\d\\d{4}){1,6})"
            + "((?:m\\d(?:0[1-9]|[1-9]\\d))*)", Pattern.DOTALL);

    private static final class Debt {
        final int amount;
        final int due;

        Debt(int amount, int due) {
            this.amount = amount;
            this.due = due;
        }
    }

    private static final class Tenant implements Cloneable {
        int capacity;
        int rate;
        int level;
        int stock;
        int cash;
        int sent;
        int suspensionEnd = Integer.MIN_VALUE;
        List<Debt> debts = new ArrayList<>();
        List<Integer> queue = new ArrayList<>();

        Tenant(int capacity, int rate, int cash) {
            this.capacity = capacity;
            this.rate = rate;
            this.level = capacity;
            this.cash = cash;
        }

        Tenant twin() {
            Tenant twin = new Tenant(capacity, rate, cash);
            twin.level = level;
            twin.stock = stock;
            twin.sent = sent;
            twin.suspensionEnd = suspensionEnd;
            twin.debts = new ArrayList<>(debts);
            twin.queue = new ArrayList<>(queue);
            return twin;
        }

        int debtSum() {
            return debts.stream().mapToInt(d -> d.amount).sum();
        }

        void takeOne() {
            if (stock > 0) {
                stock--;
            } else {
                level--;
            }
        }
    }

    private static final class Order {
        final int tenant;
        final int kind;
        final int price;
        int quantity;
        int fill;

        Order(int tenant, int kind, int price, int quantity) {
            this.tenant = tenant;
            this.kind = kind;
            this.price = price;
            this.quantity = quantity;
        }
    }

    private static final class State {
        List<Tenant> tenants = new ArrayList<>();
        List<Order> book = new ArrayList<>();
        int width = 1;
        int interval = 1;
        int term = 1;
        int penalty = 0;
        int time;
        int house;
        int lastPrice = NONE;
        int lastBytes;

        State twin() {
            State twin = new State();
            tenants.forEach(t -> twin.tenants.add(t.twin()));
            book.forEach(o -> twin.book.add(new Order(o.tenant, o.kind, o.price, o.quantity)));
            twin.width = width;
            twin.interval = interval;
            twin.term = term;
            twin.penalty = penalty;
            twin.time = time;
            twin.house = house;
            twin.lastPrice = lastPrice;
            twin.lastBytes = lastBytes;
            return twin;
        }
    }

    private static final class Outcome {
        int volume;
        int price = NONE;
        int surplus;
    }

    private State s = new State();
    private final Deque<State> remembered = new ArrayDeque<>();
    private final State[] slots = new State[2];
    private String text = "";

    PlainModel() {
        s.tenants.add(new Tenant(1, 0, 0));
    }

    private PlainModel onCopy() {
        PlainModel copy = new PlainModel();
        copy.s = s.twin();
        return copy;
    }

    private void there(boolean there) {
        if (!there) {
            throw new IndexOutOfBoundsException();
        }
    }

    private void tenantThere(int t) {
        there(t >= 0 && t < s.tenants.size());
    }

    private void range(long v, long least, long most) {
        if (v < least || v > most) {
            throw new IllegalArgumentException();
        }
    }

    private void possible(boolean possible) {
        if (!possible) {
            throw new IllegalStateException();
        }
    }

    private void act() {
        remembered.addLast(s.twin());
        if (remembered.size() > 14) {
            remembered.removeFirst();
        }
    }

    int append(int c) {
        range(c, 0, 255);
        possible(text.length() < 160);
        text += (char) c;
        return text.length();
    }

    int clearText() {
        int length = text.length();
        text = "";
        return length;
    }

    /** The length of the longest beginning that goes on to an exchange text. */
    int errorPosition() {
        if (isWhole(text)) {
            return NONE;
        }
        int good = 0;
        while (good < text.length() && canGoOn(text.substring(0, good + 1))) {
            good++;
        }
        return good;
    }

    private static boolean isWhole(String begun) {
        return GRAMMAR.matcher(begun).matches() && queuesFit(begun);
    }

    private static boolean canGoOn(String begun) {
        Matcher matcher = GRAMMAR.matcher(begun);
        return (matcher.matches() || matcher.hitEnd()) && queuesFit(begun);
    }

    private static boolean queuesFit(String begun) {
        int tenants = (int) begun.chars().filter(c -> c == 't').count();
        int[] counts = new int[10];
        for (int i = begun.indexOf('m'); i >= 0 && i < begun.length(); i += 4) {
            int full = 0;
            for (int t = 0; t < tenants; t++) {
                full += counts[t] == 8 ? 1 : 0;
            }
            if (full == tenants) {
                return false;
            }
            if (i + 1 < begun.length()) {
                int t = begun.charAt(i + 1) - '0';
                if (t < 0 || t >= tenants || ++counts[t] > 8) {
                    return false;
                }
            }
        }
        return true;
    }

    int load() {
        Matcher matcher = GRAMMAR.matcher(text);
        possible(matcher.matches() && queuesFit(text));
        State fresh = new State();
        fresh.width = Integer.parseInt(matcher.group(1));
        fresh.interval = Integer.parseInt(matcher.group(2));
        fresh.term = Integer.parseInt(matcher.group(3));
        fresh.penalty = Integer.parseInt(matcher.group(4));
        for (String part : matcher.group(5).substring(1).split("t")) {
            fresh.tenants.add(new Tenant(Integer.parseInt(part.substring(0, 3)),
                    Integer.parseInt(part.substring(3, 5)), Integer.parseInt(part.substring(5))));
        }
        for (String part : matcher.group(6).split("m")) {
            if (!part.isEmpty()) {
                fresh.tenants.get(part.charAt(0) - '0').queue.add(Integer.parseInt(part.substring(1)));
            }
        }
        s = fresh;
        remembered.clear();
        slots[0] = null;
        slots[1] = null;
        return s.tenants.size();
    }

    int about(int what) {
        range(what, 0, 9);
        int[] numbers = {s.tenants.size(), s.width, s.interval, s.term, s.penalty, s.time, s.house,
            s.lastPrice, s.book.size(), s.lastBytes};
        return numbers[what];
    }

    private boolean isSuspended(Tenant tenant) {
        return tenant.suspensionEnd > s.time;
    }

    int tenant(int t, int what) {
        tenantThere(t);
        range(what, 0, 11);
        Tenant it = s.tenants.get(t);
        int[] numbers = {it.capacity, it.rate, it.level, it.stock, it.cash, asideCredits(t), asideCash(t),
            it.debtSum(), it.debts.stream().mapToInt(d -> d.due).min().orElse(NONE), it.queue.size(), it.sent,
            isSuspended(it) ? it.suspensionEnd : NONE};
        return numbers[what];
    }

    private int asideCredits(int t) {
        return s.book.stream().filter(o -> o.tenant == t && o.kind == 1).mapToInt(o -> o.quantity).sum();
    }

    private int asideCash(int t) {
        return s.book.stream().filter(o -> o.tenant == t && o.kind == 0).mapToInt(o -> o.quantity * o.price).sum();
    }

    int message(int t, int i) {
        tenantThere(t);
        range(i, 0, 7);
        List<Integer> queue = s.tenants.get(t).queue;
        return i < queue.size() ? queue.get(i) : NONE;
    }

    int order(int i, int what) {
        there(i >= 0 && i < s.book.size());
        range(what, 0, 4);
        match(s.book);
        Order it = s.book.get(i);
        return new int[] {it.tenant, it.kind, it.price, it.quantity, it.fill}[what];
    }

    int bid(int t, int price, int quantity) {
        orderArguments(t, price, quantity);
        Tenant it = s.tenants.get(t);
        possible(s.book.size() < 12 && !isSuspended(it) && it.cash >= price * quantity);
        act();
        it.cash -= price * quantity;
        return added(new Order(t, 0, price, quantity));
    }

    int ask(int t, int price, int quantity) {
        orderArguments(t, price, quantity);
        Tenant it = s.tenants.get(t);
        possible(s.book.size() < 12 && !isSuspended(it) && it.level + it.stock >= quantity);
        act();
        for (int k = 0; k < quantity; k++) {
            it.takeOne();
        }
        return added(new Order(t, 1, price, quantity));
    }

    int askShort(int t, int price, int quantity) {
        orderArguments(t, price, quantity);
        Tenant it = s.tenants.get(t);
        int asked = s.book.stream().filter(o -> o.tenant == t && o.kind == 2).mapToInt(o -> o.quantity).sum();
        possible(s.book.size() < 12 && !isSuspended(it) && it.debtSum() + asked + quantity <= 99);
        act();
        return added(new Order(t, 2, price, quantity));
    }

    private void orderArguments(int t, int price, int quantity) {
        tenantThere(t);
        range(price, 1, 99);
        range(quantity, 1, 99);
    }

    private int added(Order order) {
        s.book.add(order);
        return s.book.size() - 1;
    }

    int withdraw(int i) {
        there(i >= 0 && i < s.book.size());
        act();
        int quantity = s.book.get(i).quantity;
        takeOut(i);
        return quantity;
    }

    private void takeOut(int i) {
        Order order = s.book.remove(i);
        if (order.kind == 0) {
            s.tenants.get(order.tenant).cash += order.price * order.quantity;
        }
        if (order.kind == 1) {
            s.tenants.get(order.tenant).stock += order.quantity;
        }
    }

    int push(int t, int size) {
        tenantThere(t);
        range(size, 1, 99);
        possible(s.tenants.get(t).queue.size() < 8);
        act();
        s.tenants.get(t).queue.add(size);
        return s.tenants.get(t).queue.size();
    }

    int deposit(int t, int amount) {
        tenantThere(t);
        range(amount, 1, 9999);
        possible(s.tenants.get(t).cash + amount <= 99999);
        act();
        s.tenants.get(t).cash += amount;
        return s.tenants.get(t).cash;
    }

    int tick(int n) {
        range(n, 1, 50);
        act();
        return ticks(n);
    }

    private int ticks(int n) {
        int bytes = 0;
        for (int k = 0; k < n; k++) {
            bytes += oneTick();
        }
        return bytes;
    }

    private int oneTick() {
        s.time++;
        for (Tenant it : s.tenants) {
            if (!isSuspended(it)) {
                it.level = Math.min(it.level + it.rate, it.capacity);
            }
        }
        send();
        if (s.time % s.interval == 0) {
            hold();
        }
        for (int t = 0; t < s.tenants.size(); t++) {
            Tenant it = s.tenants.get(t);
            for (Debt debt : new ArrayList<>(it.debts)) {
                if (debt.due <= s.time) {
                    collect(t, debt);
                    it.debts.remove(debt);
                }
            }
        }
        return s.lastBytes;
    }

    private void send() {
        s.lastBytes = 0;
        int inRound;
        do {
            inRound = 0;
            int t = s.time % s.tenants.size();
            for (int k = 0; k < s.tenants.size(); k++) {
                Tenant it = s.tenants.get(t);
                if (!it.queue.isEmpty() && !isSuspended(it) && it.queue.get(0) <= it.level + it.stock
                        && it.queue.get(0) + s.lastBytes <= s.width) {
                    int size = it.queue.remove(0);
                    for (int b = 0; b < size; b++) {
                        it.takeOne();
                    }
                    it.sent += size;
                    s.lastBytes += size;
                    inRound++;
                }
                t = t + 1 == s.tenants.size() ? 0 : t + 1;
            }
        } while (inRound > 0);
    }

    private void hold() {
        Outcome outcome = match(s.book);
        if (outcome.volume == 0) {
            return;
        }
        s.lastPrice = outcome.price;
        for (Order order : s.book) {
            Tenant it = s.tenants.get(order.tenant);
            if (order.fill > 0 && order.kind == 0) {
                it.stock += order.fill;
                it.cash += order.price * order.fill;
                it.cash -= outcome.price * order.fill;
            } else if (order.fill > 0) {
                it.cash += outcome.price * order.fill;
                if (order.kind == 2) {
                    it.debts.add(new Debt(order.fill, s.time + s.term));
                }
            }
            order.quantity -= order.fill;
        }
        s.book.removeIf(o -> o.quantity == 0);
    }

    private void collect(int t, Debt debt) {
        Tenant it = s.tenants.get(t);
        int missing = debt.amount;
        while (missing > 0 && it.level + it.stock > 0) {
            it.takeOne();
            missing--;
        }
        if (missing == 0) {
            return;
        }
        for (int i = 0; i < s.book.size();) {
            if (s.book.get(i).tenant == t) {
                takeOut(i);
            } else {
                i++;
            }
        }
        while (missing > 0 && it.level + it.stock > 0) {
            it.takeOne();
            missing--;
        }
        while (missing > 0 && it.cash >= s.penalty) {
            it.cash -= s.penalty;
            s.house += s.penalty;
            missing--;
        }
        if (missing > 0) {
            it.suspensionEnd = s.time + 2 * s.term;
        }
    }

    /** Matches credit by credit and leaves the fills in the orders. */
    private static Outcome match(List<Order> book) {
        List<Order> bids = new ArrayList<>();
        List<Order> asks = new ArrayList<>();
        for (Order order : book) {
            order.fill = 0;
            for (int k = 0; k < order.quantity; k++) {
                (order.kind == 0 ? bids : asks).add(order);
            }
        }
        bids.sort(Comparator.comparingInt(o -> -o.price));
        asks.sort(Comparator.<Order>comparingInt(o -> o.price).thenComparingInt(o -> o.kind));
        Outcome outcome = new Outcome();
        while (outcome.volume < bids.size() && outcome.volume < asks.size()) {
            Order bid = bids.get(outcome.volume);
            Order ask = asks.get(outcome.volume);
            if (bid.price < ask.price) {
                break;
            }
            bid.fill++;
            ask.fill++;
            outcome.price = (bid.price + ask.price) / 2;
            outcome.surplus += bid.price - ask.price;
            outcome.volume++;
        }
        return outcome;
    }

    int setRate(int t, int v) {
        tenantThere(t);
        range(v, 0, 99);
        act();
        int previous = s.tenants.get(t).rate;
        s.tenants.get(t).rate = v;
        return previous;
    }

    int setWidth(int v) {
        range(v, 1, 999);
        act();
        int previous = s.width;
        s.width = v;
        return previous;
    }

    int undo() {
        possible(!remembered.isEmpty());
        s = remembered.removeLast();
        return remembered.size();
    }

    int demand(int price) {
        range(price, 1, 99);
        return s.book.stream().filter(o -> o.kind == 0 && o.price >= price).mapToInt(o -> o.quantity).sum();
    }

    int supply(int price) {
        range(price, 1, 99);
        return s.book.stream().filter(o -> o.kind > 0 && o.price <= price).mapToInt(o -> o.quantity).sum();
    }

    int auction(int what) {
        range(what, 0, 3);
        Outcome outcome = match(s.book);
        int removed = (int) s.book.stream().filter(o -> o.fill == o.quantity).count();
        return new int[] {outcome.volume, outcome.price, outcome.surplus, removed}[what];
    }

    int volumeIf(int t, int kind, int price, int quantity) {
        tenantThere(t);
        range(kind, 0, 2);
        range(price, 1, 99);
        range(quantity, 1, 99);
        List<Order> more = new ArrayList<>(s.book);
        more.add(new Order(t, kind, price, quantity));
        return match(more).volume;
    }

    int priceFor(int quantity) {
        range(quantity, 1, 99);
        for (int price = 1; price <= 99; price++) {
            List<Order> more = new ArrayList<>(s.book);
            Order youngest = new Order(0, 0, price, quantity);
            more.add(youngest);
            match(more);
            if (youngest.fill == quantity) {
                return price;
            }
        }
        return NONE;
    }

    int share(int t, boolean upper) {
        tenantThere(t);
        int n = s.tenants.size();
        int[] surplus = new int[1 << n];
        for (int come = 0; come < surplus.length; come++) {
            int mask = come;
            List<Order> part = new ArrayList<>(s.book);
            part.removeIf(o -> (mask & 1 << o.tenant) == 0);
            surplus[come] = match(part).surplus;
        }
        long[] sumAndWays = new long[2];
        comeInAllOrders(t, 0, surplus, sumAndWays);
        return lowest(sumAndWays[0], sumAndWays[1], upper).intValueExact();
    }

    private void comeInAllOrders(int t, int come, int[] surplus, long[] sumAndWays) {
        if ((come & 1 << t) != 0) {
            long ways = 1;
            for (int k = s.tenants.size() - Integer.bitCount(come); k > 1; k--) {
                ways *= k;
            }
            sumAndWays[0] += ways * (surplus[come] - surplus[come ^ 1 << t]);
            sumAndWays[1] += ways;
            return;
        }
        // the orders of coming that begin alike differ only behind tenant t
        for (int next = 0; next < s.tenants.size(); next++) {
            if (next == t || (come & 1 << next) == 0) {
                comeInAllOrders(t, come | 1 << next, surplus, sumAndWays);
            }
        }
    }

    private static BigInteger lowest(long top, long bottom, boolean upper) {
        BigInteger gcd = BigInteger.valueOf(top).gcd(BigInteger.valueOf(bottom));
        return BigInteger.valueOf(upper ? top : bottom).divide(gcd);
    }

    int ahead(int n, int t, int what) {
        tenantThere(t);
        range(n, 0, 99);
        range(what, 0, 11);
        PlainModel copy = onCopy();
        copy.ticks(n);
        return copy.tenant(t, what);
    }

    int sentAfter(int t, int i) {
        tenantThere(t);
        range(i, 0, 7);
        if (i >= s.tenants.get(t).queue.size()) {
            return NONE;
        }
        PlainModel copy = onCopy();
        int behind = s.tenants.get(t).queue.size() - 1 - i;
        for (int k = 1; k <= 99; k++) {
            copy.ticks(1);
            if (copy.s.tenants.get(t).queue.size() <= behind) {
                return k;
            }
        }
        return NONE;
    }

    int unused(int n) {
        range(n, 1, 99);
        PlainModel copy = onCopy();
        int sum = 0;
        for (int k = 0; k < n; k++) {
            sum += s.width - copy.ticks(1);
        }
        return sum;
    }

    long fairness(boolean upper) {
        long sum = s.tenants.stream().mapToLong(t -> t.sent).sum();
        long squares = s.tenants.stream().mapToLong(t -> (long) t.sent * t.sent).sum();
        return sum == 0 ? 1 : lowest(sum * sum, s.tenants.size() * squares, upper).longValueExact();
    }

    int wealthiest(int i) {
        tenantThere(i);
        List<Integer> ranked = new ArrayList<>();
        for (int t = 0; t < s.tenants.size(); t++) {
            ranked.add(t);
        }
        ranked.sort(Comparator.comparingLong((Integer t) -> -wealth(t)));
        return ranked.get(i);
    }

    private long wealth(int t) {
        Tenant it = s.tenants.get(t);
        long credits = it.level + it.stock + asideCredits(t) - it.debtSum();
        return it.cash + asideCash(t) + Math.max(0, s.lastPrice) * credits;
    }

    int runScript(int n, long script) {
        range(n, 1, 3);
        range(script, 0, Long.MAX_VALUE);
        String digits = Long.toString(script);
        range(digits.length(), 1, 6 * n);
        digits = "0".repeat(6 * n - digits.length()) + digits;
        PlainModel copy = onCopy();
        for (int k = 0; k < n; k++) {
            if (!copy.obey(digits.substring(6 * k, 6 * k + 6))) {
                return k;
            }
        }
        return NONE;
    }

    private boolean obey(String group) {
        int t = group.charAt(1) - '0';
        int x = Integer.parseInt(group.substring(2, 4));
        int y = Integer.parseInt(group.substring(4));
        try {
            if (group.matches("[1-3].*")) {
                place(group.charAt(0) - '1', t, x, y);
                return true;
            } else if (group.matches("4000..")) {
                tick(y);
                return true;
            } else if (group.matches("5.00..")) {
                push(t, y);
                return true;
            } else if (group.matches("6.*")) {
                return tenant(t, 4) >= 100 * x + y;
            } else if (group.matches("7.*")) {
                return tenant(t, 2) + tenant(t, 3) >= 100 * x + y;
            }
            return group.matches("8000..") && s.lastPrice == y;
        } catch (IndexOutOfBoundsException | IllegalArgumentException | IllegalStateException e) {
            return false;
        }
    }

    private void place(int kind, int t, int price, int quantity) {
        if (kind == 0) {
            bid(t, price, quantity);
        } else if (kind == 1) {
            ask(t, price, quantity);
        } else {
            askShort(t, price, quantity);
        }
    }

    int simulate(long seed, int m) {
        range(m, 1, 60);
        PlainModel copy = onCopy();
        long x = seed;
        int bytes = 0;
        for (int round = 0; round < m; round++) {
            x = x * 6364136223846793005L + 1442695040888963407L;
            int r = (int) (x >>> 33);
            int t = r % s.tenants.size();
            int p = 1 + r / 8 % 99;
            int q = 1 + r / 1024 % 20;
            try {
                if (r / 65536 % 4 == 3) {
                    copy.push(t, q);
                } else {
                    copy.place(r / 65536 % 4, t, p, q);
                }
            } catch (IllegalStateException e) {
                // nothing happens then
            }
            bytes += copy.ticks(1);
        }
        return bytes;
    }

    int save(int slot) {
        there(slot == 0 || slot == 1);
        slots[slot] = s.twin();
        return s.time;
    }

    int restore(int slot) {
        there(slot == 0 || slot == 1);
        possible(slots[slot] != null);
        s = slots[slot].twin();
        remembered.clear();
        return s.time;
    }
}
