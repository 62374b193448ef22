/**
 * An exchange for credits of token buckets: tenants share a link, each of them limited by a bucket,
 * and trade credits in a double auction with a uniform price.
 */
public final class CreditExchange {
    /** There is no such result. */
    public static final int NONE = -9;

    private static final int MOST_TENANTS = 6;
    private static final int MOST_MESSAGES = 8;
    private static final int MOST_ORDERS = 12;
    private static final int MOST_REMEMBERED = 14;
    private static final int MOST_SIGNS = 160;
    private static final int MOST_CASH_BY_DEPOSIT = 99999;
    private static final int MOST_OWED = 99;
    private static final int MOST_WIDTH = 999;
    private static final int MOST_TICKS = 50;
    private static final int MOST_TICKS_AHEAD = 99;
    private static final int MOST_ROUNDS = 60;
    private static final int MOST_COMMANDS = 3;
    private static final int SLOTS = 2;

    private static final int BID = 0;
    private static final int ASK = 1;
    private static final int SHORT_ASK = 2;
    private static final int MESSAGE = 3;

    private static final int ALL_TENANTS = (1 << MOST_TENANTS) - 1;
    private static final int GROUP = 1000000;
    private static final int[] FACTORIALS = {1, 1, 2, 6, 24, 120, 720};

    private final State now = new State();
    /** Questions, scripts and simulations run on this one, so that they change nothing. */
    private final State copy = new State();
    private final Auction trial = new Auction();
    private final History history = new History();
    /** An emptied slot keeps its room, to be used again. */
    private final State[] slots = new State[SLOTS];
    private final boolean[] filled = new boolean[SLOTS];
    private final ExchangeText text = new ExchangeText();

    public CreditExchange() {
        now.begin(1, 1, 1, 0);
        now.addTenant(1, 0, 0);
    }

    // ---- text

    public int append(int c) throws IllegalArgumentException, IllegalStateException {
        requireArgument(isWithin(c, 0, 255));
        requirePossible(!text.isFull());
        return text.add(c);
    }

    public int clearText() {
        return text.empty();
    }

    public int errorPosition() {
        return text.readInto(copy);
    }

    public int load() throws IllegalStateException {
        requirePossible(text.readInto(copy) == NONE);
        now.copyFrom(copy);
        history.forget();
        for (int slot = 0; slot < filled.length; slot++) {
            filled[slot] = false;
        }
        return now.tenantCount;
    }

    // ---- the state

    public int about(int what) throws IllegalArgumentException {
        requireArgument(isWithin(what, 0, 9));
        return now.number(what);
    }

    public int tenant(int t, int what) throws IndexOutOfBoundsException, IllegalArgumentException {
        requireThere(now.hasTenant(t));
        requireArgument(isWithin(what, 0, 11));
        return now.tenantNumber(t, what);
    }

    public int message(int t, int i) throws IndexOutOfBoundsException, IllegalArgumentException {
        requireThere(now.hasTenant(t));
        requireArgument(isPlaceInQueue(i));
        return now.tenants[t].sizeAt(i);
    }

    public int order(int i, int what) throws IndexOutOfBoundsException, IllegalArgumentException {
        requireThere(now.hasOrder(i));
        requireArgument(isWithin(what, 0, 4));
        Order order = now.orders[i];
        switch (what) {
            case 0:
                return order.tenant;
            case 1:
                return order.kind;
            case 2:
                return order.price;
            case 3:
                return order.quantity;
            default:
                trial.hold(now);
                return trial.fillOf(i);
        }
    }

    // ---- actions

    public int bid(int t, int price, int quantity)
            throws IndexOutOfBoundsException, IllegalArgumentException, IllegalStateException {
        return addOrder(BID, t, price, quantity);
    }

    public int ask(int t, int price, int quantity)
            throws IndexOutOfBoundsException, IllegalArgumentException, IllegalStateException {
        return addOrder(ASK, t, price, quantity);
    }

    public int askShort(int t, int price, int quantity)
            throws IndexOutOfBoundsException, IllegalArgumentException, IllegalStateException {
        return addOrder(SHORT_ASK, t, price, quantity);
    }

    public int withdraw(int i) throws IndexOutOfBoundsException {
        requireThere(now.hasOrder(i));
        history.remember(now);
        return now.withdrawOrder(i);
    }

    public int push(int t, int size)
            throws IndexOutOfBoundsException, IllegalArgumentException, IllegalStateException {
        requireThere(now.hasTenant(t));
        requireArgument(isTwoDigits(size));
        requirePossible(!now.tenants[t].isQueueFull());
        history.remember(now);
        return now.tenants[t].queueMessage(size);
    }

    public int deposit(int t, int amount)
            throws IndexOutOfBoundsException, IllegalArgumentException, IllegalStateException {
        requireThere(now.hasTenant(t));
        requireArgument(isWithin(amount, 1, 9999));
        Tenant owner = now.tenants[t];
        requirePossible(owner.cash + amount <= MOST_CASH_BY_DEPOSIT);
        history.remember(now);
        owner.cash += amount;
        return owner.cash;
    }

    public int tick(int n) throws IllegalArgumentException {
        requireArgument(isWithin(n, 1, MOST_TICKS));
        history.remember(now);
        return now.advance(n, trial);
    }

    public int setRate(int t, int v) throws IndexOutOfBoundsException, IllegalArgumentException {
        requireThere(now.hasTenant(t));
        requireArgument(isWithin(v, 0, 99));
        history.remember(now);
        int previous = now.tenants[t].rate;
        now.tenants[t].rate = v;
        return previous;
    }

    public int setWidth(int v) throws IllegalArgumentException {
        requireArgument(isWithin(v, 1, MOST_WIDTH));
        history.remember(now);
        int previous = now.width;
        now.width = v;
        return previous;
    }

    public int undo() throws IllegalStateException {
        requirePossible(history.count > 0);
        return history.takeBack(now);
    }

    // ---- questions about an auction that would take place now

    public int demand(int price) throws IllegalArgumentException {
        requireArgument(isTwoDigits(price));
        return now.wantedAt(price);
    }

    public int supply(int price) throws IllegalArgumentException {
        requireArgument(isTwoDigits(price));
        return now.offeredAt(price);
    }

    public int auction(int what) throws IllegalArgumentException {
        requireArgument(isWithin(what, 0, 3));
        trial.hold(now);
        switch (what) {
            case 0:
                return trial.volume;
            case 1:
                return trial.price;
            case 2:
                return trial.surplus;
            default:
                return trial.countWhollyFilled();
        }
    }

    public int volumeIf(int t, int kind, int price, int quantity)
            throws IndexOutOfBoundsException, IllegalArgumentException {
        requireThere(now.hasTenant(t));
        requireArgument(isWithin(kind, BID, SHORT_ASK) && isTwoDigits(price) && isTwoDigits(quantity));
        trial.gather(now, ALL_TENANTS);
        trial.add(kind, price, quantity);
        trial.match();
        return trial.volume;
    }

    public int priceFor(int quantity) throws IllegalArgumentException {
        requireArgument(isTwoDigits(quantity));
        // The youngest bid comes after all bids with at least its price, and these take nothing but
        // asks with at most its price before they are filled: it gets what they leave of such asks.
        for (int price = 1; price <= 99; price++) {
            if (now.offeredAt(price) - now.wantedAt(price) >= quantity) {
                return price;
            }
        }
        return NONE;
    }

    public int share(int t, boolean upper) throws IndexOutOfBoundsException {
        requireThere(now.hasTenant(t));
        int others = now.tenantCount - 1;
        int own = 1 << t;
        long sum = 0;
        for (int come = 0; come < 1 << now.tenantCount; come++) {
            if ((come & own) == 0) {
                int before = Integer.bitCount(come);
                long increase = surplusOf(come | own) - surplusOf(come);
                sum += increase * factorial(before) * factorial(others - before);
            }
        }
        return (int) inLowestTerms(sum, factorial(now.tenantCount), upper);
    }

    // ---- questions about the time to come

    public int ahead(int n, int t, int what) throws IndexOutOfBoundsException, IllegalArgumentException {
        requireThere(now.hasTenant(t));
        requireArgument(isWithin(n, 0, MOST_TICKS_AHEAD) && isWithin(what, 0, 11));
        copy.copyFrom(now);
        copy.advance(n, trial);
        return copy.tenantNumber(t, what);
    }

    public int sentAfter(int t, int i) throws IndexOutOfBoundsException, IllegalArgumentException {
        requireThere(now.hasTenant(t));
        requireArgument(isPlaceInQueue(i));
        int queued = now.tenants[t].messageCount;
        if (i >= queued) {
            return NONE;
        }
        copy.copyFrom(now);
        for (int k = 1; k <= MOST_TICKS_AHEAD; k++) {
            copy.advance(1, trial);
            if (queued - copy.tenants[t].messageCount > i) {
                return k;
            }
        }
        return NONE;
    }

    public int unused(int n) throws IllegalArgumentException {
        requireArgument(isWithin(n, 1, MOST_TICKS_AHEAD));
        copy.copyFrom(now);
        return n * now.width - copy.advance(n, trial);
    }

    // ---- accounts

    public long fairness(boolean upper) {
        long sum = 0;
        long squares = 0;
        for (int t = 0; t < now.tenantCount; t++) {
            long sent = now.tenants[t].sent;
            sum += sent;
            squares += sent * sent;
        }
        if (squares == 0) {
            return 1;
        }
        return inLowestTerms(sum * sum, now.tenantCount * squares, upper);
    }

    public int wealthiest(int i) throws IndexOutOfBoundsException {
        requireThere(now.hasTenant(i));
        for (int t = 0; t < now.tenantCount; t++) {
            if (now.rankByWealth(t) == i) {
                return t;
            }
        }
        return NONE;
    }

    // ---- scripts, simulations

    public int runScript(int n, long script) throws IllegalArgumentException {
        requireArgument(isWithin(n, 1, MOST_COMMANDS));
        requireArgument(script >= 0 && script < unitOfGroup(n));
        copy.copyFrom(now);
        for (int k = 0; k < n; k++) {
            int group = (int) (script / unitOfGroup(n - 1 - k) % GROUP);
            if (!succeeds(group)) {
                return k;
            }
        }
        return NONE;
    }

    public int simulate(long seed, int m) throws IllegalArgumentException {
        requireArgument(isWithin(m, 1, MOST_ROUNDS));
        copy.copyFrom(now);
        long x = seed;
        int bytes = 0;
        for (int round = 0; round < m; round++) {
            x = x * 6364136223846793005L + 1442695040888963407L;
            tryRandomAction((int) (x >>> 33));
            bytes += copy.advance(1, trial);
        }
        return bytes;
    }

    // ---- save slots

    public int save(int slot) throws IndexOutOfBoundsException {
        requireThere(isSlot(slot));
        State saved = slots[slot];
        if (saved == null) {
            saved = new State();
            slots[slot] = saved;
        }
        saved.copyFrom(now);
        filled[slot] = true;
        return now.time;
    }

    public int restore(int slot) throws IndexOutOfBoundsException, IllegalStateException {
        requireThere(isSlot(slot));
        State saved = slots[slot];
        if (saved == null || !filled[slot]) {
            throw new IllegalStateException("the slot is empty");
        }
        now.copyFrom(saved);
        history.forget();
        return now.time;
    }

    // ---- help for the calls above

    private static void requireThere(boolean there) {
        if (!there) {
            throw new IndexOutOfBoundsException("no such tenant, order or slot");
        }
    }

    private static void requireArgument(boolean fits) {
        if (!fits) {
            throw new IllegalArgumentException("an argument is out of its range");
        }
    }

    private static void requirePossible(boolean possible) {
        if (!possible) {
            throw new IllegalStateException("not possible now");
        }
    }

    private static boolean isWithin(int v, int least, int most) {
        return v >= least && v <= most;
    }

    /** Prices, quantities and sizes share this range. */
    private static boolean isTwoDigits(int v) {
        return isWithin(v, 1, 99);
    }

    private static boolean isPlaceInQueue(int i) {
        return isWithin(i, 0, MOST_MESSAGES - 1);
    }

    private static boolean isSlot(int slot) {
        return isWithin(slot, 0, SLOTS - 1);
    }

    private int addOrder(int kind, int t, int price, int quantity) {
        requireThere(now.hasTenant(t));
        requireArgument(isTwoDigits(price) && isTwoDigits(quantity));
        requirePossible(now.canPlace(kind, t, price, quantity));
        history.remember(now);
        return now.place(kind, t, price, quantity);
    }

    private int surplusOf(int tenantMask) {
        trial.gather(now, tenantMask);
        trial.match();
        return trial.surplus;
    }

    private static int factorial(int n) {
        return n >= 0 && n < FACTORIALS.length ? FACTORIALS[n] : 1;
    }

    private static long inLowestTerms(long top, long bottom, boolean upper) {
        long a = Math.abs(top);
        long b = bottom;
        // Euclid's algorithm needs fewer than 100 steps for any two longs.
        for (int step = 0; step < 100 && b != 0; step++) {
            long rest = a % b;
            a = b;
            b = rest;
        }
        return (upper ? top : bottom) / Math.max(1, a);
    }

    /** What one stands for in the group with this number, 0 for the lowest one; never 0. */
    private static long unitOfGroup(int group) {
        long unit = 1;
        for (int k = 0; k < group; k++) {
            unit *= GROUP;
        }
        return unit;
    }

    private boolean succeeds(int group) {
        int command = group / 100000;
        int t = group / 10000 % 10;
        int x = group / 100 % 100;
        int y = group % 100;
        switch (command) {
            case 1:
            case 2:
            case 3:
                return copy.tryPlace(command - 1, t, x, y);
            case 4:
                if (t != 0 || x != 0 || !isWithin(y, 1, MOST_TICKS)) {
                    return false;
                }
                copy.advance(y, trial);
                return true;
            case 5:
                return x == 0 && copy.tryQueue(t, y);
            case 6:
                return copy.hasTenant(t) && copy.tenants[t].cash >= 100 * x + y;
            case 7:
                return copy.hasTenant(t) && copy.tenants[t].credits() >= 100 * x + y;
            case 8:
                return t == 0 && x == 0 && copy.lastPrice == y;
            default:
                return false;
        }
    }

    private void tryRandomAction(int r) {
        if (copy.tenantCount < 1) {
            return;
        }
        int t = r % copy.tenantCount;
        int price = 1 + r / 8 % 99;
        int quantity = 1 + r / 1024 % 20;
        int kind = r / 65536 % 4;
        if (kind == MESSAGE) {
            copy.tryQueue(t, quantity);
        } else {
            copy.tryPlace(kind, t, price, quantity);
        }
    }

    /** A tenant with its bucket, stock, cash, debts and queue. */
    private static final class Tenant {
        /**
         * Within a tick a debt may be due at any time from the present one to the present one plus
         * the longest term, 50: so many different times, and one place for each of them.
         */
        static final int DUE_TIMES = 51;

        int capacity;
        int rate;
        int level;
        int stock;
        int cash;
        int sent;
        int suspensionEnd;
        int messageCount;
        final int[] messages = new int[MOST_MESSAGES];
        /**
         * What is owed, at the place (due time modulo DUE_TIMES). Debts that are due at the same time
         * are collected directly one after the other, which takes, pays and suspends as much as one
         * debt of their sum does: the sum is all that must be kept.
         */
        final int[] owed = new int[DUE_TIMES];

        void begin(int capacity, int rate, int cash) {
            this.capacity = capacity;
            this.rate = rate;
            this.cash = cash;
            level = capacity;
            stock = 0;
            sent = 0;
            suspensionEnd = 0;
            messageCount = 0;
            for (int k = 0; k < owed.length; k++) {
                owed[k] = 0;
            }
        }

        void copyFrom(Tenant other) {
            capacity = other.capacity;
            rate = other.rate;
            level = other.level;
            stock = other.stock;
            cash = other.cash;
            sent = other.sent;
            suspensionEnd = other.suspensionEnd;
            messageCount = other.messageCount;
            System.arraycopy(other.messages, 0, messages, 0, MOST_MESSAGES);
            System.arraycopy(other.owed, 0, owed, 0, DUE_TIMES);
        }

        int credits() {
            return level + stock;
        }

        /** Takes that many credits, or all if there are fewer; returns how many were taken. */
        int takeUpTo(int amount) {
            int fromStock = Math.min(stock, amount);
            int fromBucket = Math.min(level, amount - fromStock);
            stock -= fromStock;
            level -= fromBucket;
            return fromStock + fromBucket;
        }

        boolean isQueueFull() {
            return messageCount >= messages.length;
        }

        int sizeAt(int i) {
            return i >= 0 && i < messageCount && i < messages.length ? messages[i] : NONE;
        }

        int queueMessage(int size) {
            if (messageCount >= 0 && messageCount < messages.length) {
                messages[messageCount] = size;
                messageCount++;
            }
            return messageCount;
        }

        /** Sends the first message of a queue that has one; returns its size. */
        int sendFirst() {
            int size = messages[0];
            for (int k = 1; k < messages.length; k++) {
                messages[k - 1] = messages[k];
            }
            messageCount--;
            takeUpTo(size);
            sent += size;
            return size;
        }

        void owe(int amount, int dueTime) {
            owed[Math.floorMod(dueTime, DUE_TIMES)] += amount;
        }

        int owedAt(int dueTime) {
            return owed[Math.floorMod(dueTime, DUE_TIMES)];
        }

        int owedInAll() {
            int sum = 0;
            for (int amount : owed) {
                sum += amount;
            }
            return sum;
        }
    }

    /** An order of the book. */
    private static final class Order {
        int tenant;
        int kind;
        int price;
        int quantity;

        void begin(int tenant, int kind, int price, int quantity) {
            this.tenant = tenant;
            this.kind = kind;
            this.price = price;
            this.quantity = quantity;
        }
    }

    /** Tenants, book, link and house: all that actions change and undo brings back. */
    private static final class State {
        final Tenant[] tenants = new Tenant[MOST_TENANTS];
        final Order[] orders = new Order[MOST_ORDERS];
        int tenantCount;
        int orderCount;
        int width;
        int interval;
        int term;
        int penalty;
        int time;
        int house;
        int lastPrice;
        int lastBytes;

        State() {
            for (int t = 0; t < tenants.length; t++) {
                tenants[t] = new Tenant();
            }
            for (int i = 0; i < orders.length; i++) {
                orders[i] = new Order();
            }
        }

        /** Starts anew at time 0, without any tenant yet. */
        void begin(int width, int interval, int term, int penalty) {
            this.width = width;
            this.interval = interval;
            this.term = term;
            this.penalty = penalty;
            tenantCount = 0;
            orderCount = 0;
            time = 0;
            house = 0;
            lastPrice = NONE;
            lastBytes = 0;
        }

        void addTenant(int capacity, int rate, int cash) {
            if (tenantCount >= 0 && tenantCount < tenants.length) {
                tenants[tenantCount].begin(capacity, rate, cash);
                tenantCount++;
            }
        }

        void copyFrom(State other) {
            tenantCount = other.tenantCount;
            orderCount = other.orderCount;
            width = other.width;
            interval = other.interval;
            term = other.term;
            penalty = other.penalty;
            time = other.time;
            house = other.house;
            lastPrice = other.lastPrice;
            lastBytes = other.lastBytes;
            for (int t = 0; t < tenantCount; t++) {
                tenants[t].copyFrom(other.tenants[t]);
            }
            for (int i = 0; i < orderCount; i++) {
                Order order = other.orders[i];
                orders[i].begin(order.tenant, order.kind, order.price, order.quantity);
            }
        }

        boolean hasTenant(int t) {
            return t >= 0 && t < tenantCount && t < tenants.length;
        }

        boolean hasOrder(int i) {
            return i >= 0 && i < orderCount && i < orders.length;
        }

        boolean isSuspended(Tenant tenant) {
            return tenant.suspensionEnd > time;
        }

        boolean areAllQueuesFull() {
            for (int t = 0; t < tenantCount; t++) {
                if (!tenants[t].isQueueFull()) {
                    return false;
                }
            }
            return true;
        }

        int number(int what) {
            switch (what) {
                case 0:
                    return tenantCount;
                case 1:
                    return width;
                case 2:
                    return interval;
                case 3:
                    return term;
                case 4:
                    return penalty;
                case 5:
                    return time;
                case 6:
                    return house;
                case 7:
                    return lastPrice;
                case 8:
                    return orderCount;
                default:
                    return lastBytes;
            }
        }

        int tenantNumber(int t, int what) {
            Tenant tenant = tenants[t];
            switch (what) {
                case 0:
                    return tenant.capacity;
                case 1:
                    return tenant.rate;
                case 2:
                    return tenant.level;
                case 3:
                    return tenant.stock;
                case 4:
                    return tenant.cash;
                case 5:
                    return quantityOf(t, ASK);
                case 6:
                    return cashSetAside(t);
                case 7:
                    return tenant.owedInAll();
                case 8:
                    return earliestDueTime(tenant);
                case 9:
                    return tenant.messageCount;
                case 10:
                    return tenant.sent;
                default:
                    return isSuspended(tenant) ? tenant.suspensionEnd : NONE;
            }
        }

        private int quantityOf(int t, int kind) {
            int sum = 0;
            for (int i = 0; i < orderCount; i++) {
                if (orders[i].tenant == t && orders[i].kind == kind) {
                    sum += orders[i].quantity;
                }
            }
            return sum;
        }

        private int cashSetAside(int t) {
            int sum = 0;
            for (int i = 0; i < orderCount; i++) {
                if (orders[i].tenant == t && orders[i].kind == BID) {
                    sum += orders[i].price * orders[i].quantity;
                }
            }
            return sum;
        }

        private int earliestDueTime(Tenant tenant) {
            for (int wait = 0; wait <= term; wait++) {
                if (tenant.owedAt(time + wait) > 0) {
                    return time + wait;
                }
            }
            return NONE;
        }

        int wantedAt(int price) {
            int sum = 0;
            for (int i = 0; i < orderCount; i++) {
                if (orders[i].kind == BID && orders[i].price >= price) {
                    sum += orders[i].quantity;
                }
            }
            return sum;
        }

        int offeredAt(int price) {
            int sum = 0;
            for (int i = 0; i < orderCount; i++) {
                if (orders[i].kind != BID && orders[i].price <= price) {
                    sum += orders[i].quantity;
                }
            }
            return sum;
        }

        private int wealthOf(int t) {
            Tenant tenant = tenants[t];
            int price = lastPrice == NONE ? 0 : lastPrice;
            int credits = tenant.credits() + quantityOf(t, ASK) - tenant.owedInAll();
            return tenant.cash + cashSetAside(t) + price * credits;
        }

        int rankByWealth(int t) {
            int wealth = wealthOf(t);
            int before = 0;
            for (int other = 0; other < tenantCount; other++) {
                int others = wealthOf(other);
                if (others > wealth || others == wealth && other < t) {
                    before++;
                }
            }
            return before;
        }

        /** Whether a tenant that exists may place an order with a price and a quantity in range. */
        boolean canPlace(int kind, int t, int price, int quantity) {
            Tenant tenant = tenants[t];
            if (orderCount >= orders.length || isSuspended(tenant)) {
                return false;
            }
            if (kind == BID) {
                return tenant.cash >= price * quantity;
            }
            if (kind == ASK) {
                return tenant.credits() >= quantity;
            }
            return tenant.owedInAll() + quantityOf(t, SHORT_ASK) + quantity <= MOST_OWED;
        }

        /** Places an order that can be placed; returns its number. */
        int place(int kind, int t, int price, int quantity) {
            if (kind == BID) {
                tenants[t].cash -= price * quantity;
            } else if (kind == ASK) {
                tenants[t].takeUpTo(quantity);
            }
            orders[orderCount].begin(t, kind, price, quantity);
            orderCount++;
            return orderCount - 1;
        }

        boolean tryPlace(int kind, int t, int price, int quantity) {
            boolean possible = hasTenant(t) && isTwoDigits(price) && isTwoDigits(quantity)
                    && canPlace(kind, t, price, quantity);
            if (possible) {
                place(kind, t, price, quantity);
            }
            return possible;
        }

        boolean tryQueue(int t, int size) {
            boolean possible = hasTenant(t) && isTwoDigits(size) && !tenants[t].isQueueFull();
            if (possible) {
                tenants[t].queueMessage(size);
            }
            return possible;
        }

        /** Withdraws an order that exists; returns its quantity. */
        int withdrawOrder(int i) {
            int quantity = orders[i].quantity;
            giveBack(orders[i]);
            removeEmptyOrders();
            return quantity;
        }

        private void withdrawAllOf(int t) {
            for (int i = 0; i < orderCount; i++) {
                if (orders[i].tenant == t) {
                    giveBack(orders[i]);
                }
            }
            removeEmptyOrders();
        }

        private void giveBack(Order order) {
            Tenant tenant = tenants[order.tenant];
            if (order.kind == BID) {
                tenant.cash += order.price * order.quantity;
            } else if (order.kind == ASK) {
                tenant.stock += order.quantity;
            }
            order.quantity = 0;
        }

        /** Keeps the other orders in their order; the removed ones go behind them, to be used again. */
        private void removeEmptyOrders() {
            int kept = 0;
            for (int i = 0; i < orderCount; i++) {
                Order order = orders[i];
                if (order.quantity > 0) {
                    orders[i] = orders[kept];
                    orders[kept] = order;
                    kept++;
                }
            }
            orderCount = kept;
        }

        /** Does ticks one after the other; returns the bytes that were sent in them. */
        int advance(int ticks, Auction auction) {
            int bytes = 0;
            for (int k = 0; k < ticks; k++) {
                time++;
                fillBuckets();
                sendMessages();
                bytes += lastBytes;
                if (interval > 0 && time % interval == 0) {
                    auction.hold(this);
                    settle(auction);
                }
                collectDebts();
            }
            return bytes;
        }

        private void fillBuckets() {
            for (int t = 0; t < tenantCount; t++) {
                Tenant tenant = tenants[t];
                if (!isSuspended(tenant)) {
                    tenant.level = Math.min(tenant.capacity, tenant.level + tenant.rate);
                }
            }
        }

        private void sendMessages() {
            lastBytes = 0;
            boolean sentSome = true;
            for (int round = 0; sentSome && round <= MOST_TENANTS * MOST_MESSAGES; round++) {
                sentSome = sendRound();
            }
        }

        private boolean sendRound() {
            int before = lastBytes;
            for (int k = 0; k < tenantCount; k++) {
                Tenant tenant = tenants[Math.floorMod(time + k, tenantCount)];
                if (canSend(tenant)) {
                    lastBytes += tenant.sendFirst();
                }
            }
            return lastBytes > before;
        }

        private boolean canSend(Tenant tenant) {
            if (tenant.messageCount == 0 || isSuspended(tenant)) {
                return false;
            }
            int size = tenant.sizeAt(0);
            return size <= tenant.credits() && size + lastBytes <= width;
        }

        private void settle(Auction auction) {
            if (auction.volume == 0) {
                return;
            }
            lastPrice = auction.price;
            for (int i = 0; i < orderCount; i++) {
                settleOrder(orders[i], auction.fillOf(i), auction.price);
            }
            removeEmptyOrders();
        }

        private void settleOrder(Order order, int fill, int price) {
            Tenant tenant = tenants[order.tenant];
            if (order.kind == BID) {
                tenant.stock += fill;
                tenant.cash += (order.price - price) * fill;
            } else {
                tenant.cash += price * fill;
            }
            if (order.kind == SHORT_ASK) {
                tenant.owe(fill, time + term);
            }
            order.quantity -= fill;
        }

        private void collectDebts() {
            for (int t = 0; t < tenantCount; t++) {
                int due = tenants[t].owedAt(time);
                if (due > 0) {
                    tenants[t].owe(-due, time);
                    collect(t, due);
                }
            }
        }

        private void collect(int t, int debt) {
            Tenant tenant = tenants[t];
            int missing = debt - tenant.takeUpTo(debt);
            if (missing > 0) {
                withdrawAllOf(t);
                missing -= tenant.takeUpTo(missing);
            }
            for (int k = missing; k > 0 && tenant.cash >= penalty; k--) {
                tenant.cash -= penalty;
                house += penalty;
                missing--;
            }
            if (missing > 0) {
                tenant.suspensionEnd = time + 2 * term;
            }
        }
    }

    /** An auction on orders that it is given, the oldest one first; it changes none of them. */
    private static final class Auction {
        /** One more than the book holds, for the order that a question adds. */
        static final int MOST = MOST_ORDERS + 1;

        final int[] kinds = new int[MOST];
        final int[] prices = new int[MOST];
        final int[] fills = new int[MOST];
        /** What is left of the orders, not matched. */
        final int[] lefts = new int[MOST];
        int count;
        int volume;
        int price;
        int surplus;

        void hold(State state) {
            gather(state, ALL_TENANTS);
            match();
        }

        /** Takes the orders of the tenants whose bits are set. */
        void gather(State state, int tenantMask) {
            count = 0;
            for (int i = 0; i < state.orderCount; i++) {
                Order order = state.orders[i];
                if ((tenantMask >> order.tenant & 1) == 1) {
                    add(order.kind, order.price, order.quantity);
                }
            }
        }

        void add(int kind, int price, int quantity) {
            if (count >= 0 && count < MOST) {
                kinds[count] = kind;
                prices[count] = price;
                fills[count] = 0;
                lefts[count] = quantity;
                count++;
            }
        }

        void match() {
            volume = 0;
            price = NONE;
            surplus = 0;
            // Each step uses up at least one order.
            for (int step = 0; step < MOST; step++) {
                int bid = firstBidLeft();
                int ask = firstAskLeft();
                if (bid < 0 || ask < 0 || prices[bid] < prices[ask]) {
                    return;
                }
                int matched = Math.min(lefts[bid], lefts[ask]);
                fill(bid, matched);
                fill(ask, matched);
                volume += matched;
                price = (prices[bid] + prices[ask]) / 2;
                surplus += (prices[bid] - prices[ask]) * matched;
            }
        }

        private void fill(int i, int matched) {
            fills[i] += matched;
            lefts[i] -= matched;
        }

        private int firstBidLeft() {
            int first = -1;
            for (int i = 0; i < count; i++) {
                if (kinds[i] == BID && lefts[i] > 0 && (first < 0 || prices[i] > prices[first])) {
                    first = i;
                }
            }
            return first;
        }

        private int firstAskLeft() {
            int first = -1;
            for (int i = 0; i < count; i++) {
                if (kinds[i] != BID && lefts[i] > 0 && (first < 0 || isAskBefore(i, first))) {
                    first = i;
                }
            }
            return first;
        }

        private boolean isAskBefore(int i, int other) {
            return prices[i] < prices[other] || prices[i] == prices[other] && kinds[i] < kinds[other];
        }

        int fillOf(int i) {
            return i >= 0 && i < count && i < MOST ? fills[i] : 0;
        }

        int countWhollyFilled() {
            int whole = 0;
            for (int i = 0; i < count; i++) {
                if (lefts[i] == 0) {
                    whole++;
                }
            }
            return whole;
        }
    }

    /** The states before the last actions; the oldest one gives its room to the newest one. */
    private static final class History {
        final State[] states = new State[MOST_REMEMBERED];
        /** The place of the next state. */
        int next;
        int count;

        void remember(State state) {
            State room = states[next];
            if (room == null) {
                room = new State();
                states[next] = room;
            }
            room.copyFrom(state);
            next = (next + 1) % MOST_REMEMBERED;
            count = Math.min(MOST_REMEMBERED, count + 1);
        }

        /** Brings back the newest state; returns how many are left. */
        int takeBack(State state) {
            int newest = (next + MOST_REMEMBERED - 1) % MOST_REMEMBERED;
            State room = states[newest];
            if (count > 0 && room != null) {
                state.copyFrom(room);
                next = newest;
                count--;
            }
            return count;
        }

        void forget() {
            count = 0;
        }
    }

    /** The text buffer, and the reader of exchange texts. */
    private static final class ExchangeText {
        final int[] signs = new int[MOST_SIGNS];
        int length;
        /** Where the reader stands: at the next sign, or at the fault. */
        int place;
        boolean faulty;

        boolean isFull() {
            return length >= MOST_SIGNS;
        }

        int add(int sign) {
            if (length >= 0 && length < MOST_SIGNS) {
                signs[length] = sign;
                length++;
            }
            return length;
        }

        int empty() {
            int previous = length;
            length = 0;
            return previous;
        }

        /** Makes the state that the text describes; returns the error position, or NONE. */
        int readInto(State state) {
            place = 0;
            faulty = false;
            readLink(state);
            readTenants(state);
            readMessages(state);
            return faulty ? place : NONE;
        }

        private void readLink(State state) {
            readLetter('L');
            int width = readNumber(3, 1, MOST_WIDTH);
            int interval = readNumber(2, 1, 20);
            int term = readNumber(2, 1, 50);
            int penalty = readNumber(2, 0, 99);
            state.begin(width, interval, term, penalty);
        }

        private void readTenants(State state) {
            for (int t = 0; t < MOST_TENANTS && !faulty; t++) {
                if (t > 0 && sign() != 't') {
                    return;
                }
                readLetter('t');
                int capacity = readNumber(3, 1, 999);
                int rate = readNumber(2, 0, 99);
                int cash = readNumber(4, 0, 9999);
                state.addTenant(capacity, rate, cash);
            }
        }

        private void readMessages(State state) {
            for (int k = 0; k < MOST_SIGNS && !faulty && place < length; k++) {
                faulty = state.areAllQueuesFull();
                readLetter('m');
                int t = readQueue(state);
                int size = readNumber(2, 1, 99);
                if (!faulty) {
                    state.tenants[t].queueMessage(size);
                }
            }
        }

        /** The next sign, or -1 behind the last one. */
        private int sign() {
            return place >= 0 && place < length && place < MOST_SIGNS ? signs[place] : -1;
        }

        private void readLetter(int letter) {
            faulty = faulty || sign() != letter;
            if (!faulty) {
                place++;
            }
        }

        /** Reads the digit of a tenant whose queue has room. */
        private int readQueue(State state) {
            int t = sign() - '0';
            faulty = faulty || !state.hasTenant(t) || state.tenants[t].isQueueFull();
            if (!faulty) {
                place++;
            }
            return t;
        }

        private int readNumber(int digits, int least, int most) {
            int span = 1;
            for (int k = 0; k < digits; k++) {
                span *= 10;
            }
            int value = 0;
            for (int k = 0; k < digits && !faulty; k++) {
                span /= 10;
                int digit = sign() - '0';
                int longer = value * 10 + digit;
                // A digit is allowed if some digits behind it can still lead into the range.
                faulty = digit < 0 || digit > 9 || longer * span > most || longer * span + span - 1 < least;
                if (!faulty) {
                    value = longer;
                    place++;
                }
            }
            return value;
        }
    }
}
