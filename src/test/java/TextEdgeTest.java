import java.util.regex.Matcher;
import java.util.regex.Pattern;

/** The boundary cases of the section TEXT and of promises 2 to 5, each with the sentence that names it. */
public final class TextEdgeTest {
    private static final String LINK = "L012020405";
    private static final String TENANT = "t010030020";

    /** Exchange texts, but for the limit of 8 messages; a beginning of one is a match that hits the end. */
    private static final Pattern EXCHANGE = Pattern.compile("L(00[1-9]|0[1-9][0-9]|[1-9][0-9][0-9])"
            + "(0[1-9]|1[0-9]|20)(0[1-9]|[1-4][0-9]|50)[0-9][0-9]"
            + "(t(00[1-9]|0[1-9][0-9]|[1-9][0-9][0-9])[0-9]{6}){1,6}(m[0-5](0[1-9]|[1-9][0-9]))*");

    public static void main(String[] args) {
        everyCharacterCode();
        codesOutOfRange();
        theLastCharacter();
        oneMoreCharacter();
        clearsEmptyAndFull();
        emptyText();
        textEndsTooSoon();
        textEndsBeforeAnOlderOne();
        everySignAtEveryPlace();
        numbersOfTheLink();
        numbersOfATenant();
        sizesOfAMessage();
        countOfTenants();
        digitOfATenant();
        eightMessages();
        allQueuesFull();
        longestText();
        loadsTheSmallest();
        loadsTheGreatest();
        loadsTwice();
        loadReplacesEverything();
        loadRefused();
        Check.end();
    }

    private static int errorPosition(String text) {
        CreditExchange x = new CreditExchange();
        Check.type(x, text);
        return x.errorPosition();
    }

    private static void errorAt(String text, int due) {
        Check.is("errorPosition of " + text, errorPosition(text), due);
    }

    /** "c: character code, 0 to 255" */
    private static void everyCharacterCode() {
        CreditExchange x = new CreditExchange();
        for (int c = 0; c <= 255; c++) {
            Check.is("append(" + c + ")", x.append(c), c % 128 + 1);
            if (c % 128 == 127) {
                Check.is("clearText", x.clearText(), 128);
            }
        }
    }

    /** "IllegalArgumentException if c is out of range" */
    private static void codesOutOfRange() {
        for (int c : new int[] {-1, 256, 'L' + 256, 'L' - 256, Integer.MIN_VALUE, Integer.MAX_VALUE}) {
            CreditExchange x = new CreditExchange();
            x.append('L');
            Check.refuses("append(" + c + ")", Check.ARGUMENT, x, () -> x.append(c));
            Check.is("the text is as it was", x.clearText(), 1);
        }
    }

    private static CreditExchange withSigns(int count) {
        CreditExchange x = new CreditExchange();
        Check.type(x, "x".repeat(count));
        return x;
    }

    /** "a text buffer of at most 160 characters" */
    private static void theLastCharacter() {
        Check.is("number 159", withSigns(158).append('x'), 159);
        Check.is("number 160", withSigns(159).append('x'), 160);
    }

    /** "IllegalStateException if the text already has 160 characters" */
    private static void oneMoreCharacter() {
        for (int c : new int[] {0, 'L', 255}) {
            CreditExchange x = withSigns(160);
            Check.refuses("number 161", Check.STATE, x, () -> x.append(c));
            Check.is("the length stays", x.clearText(), 160);
        }
        for (int c : new int[] {-1, 256}) {
            CreditExchange x = withSigns(160);
            Check.refuses("out of range comes first", Check.ARGUMENT, x, () -> x.append(c));
        }
    }

    /** "Empties the text buffer." "Returns the previous length of the text." */
    private static void clearsEmptyAndFull() {
        for (int count : new int[] {0, 1, 159, 160}) {
            CreditExchange x = withSigns(count);
            Check.is("clearText of " + count, x.clearText(), count);
            Check.is("clearText again", x.clearText(), 0);
            Check.is("the error position of the empty text", x.errorPosition(), 0);
            Check.is("the next character is the first one", x.append('L'), 1);
            Check.is("what was there before is gone", x.errorPosition(), 1);
        }
    }

    /** "if the text ends too soon, it is the length of the text": for the empty text, 0 */
    private static void emptyText() {
        errorAt("", 0);
        CreditExchange x = new CreditExchange();
        Check.refuses("load of the empty text", Check.STATE, x, () -> x.load());
    }

    /** "if the text ends too soon, it is the length of the text" */
    private static void textEndsTooSoon() {
        String text = LINK + TENANT + "t020020500m007m107";
        for (int length = 0; length <= text.length(); length++) {
            boolean whole = length == 20 || length == 30 || length == 34 || length == 38;
            errorAt(text.substring(0, length), whole ? Check.NONE : length);
        }
    }

    /** "if the text ends too soon, it is the length of the text": what was there before clearText does not count */
    private static void textEndsBeforeAnOlderOne() {
        String text = LINK + TENANT + "t020020500m007m107";
        for (int length = 0; length <= text.length(); length++) {
            CreditExchange x = new CreditExchange();
            Check.type(x, text);
            x.clearText();
            Check.type(x, text.substring(0, length));
            Check.is("after clearText, " + length + " characters", x.errorPosition(), errorByPattern(text.substring(0, length)));
        }
    }

    private static int errorByPattern(String text) {
        for (int length = 1; length <= text.length(); length++) {
            Matcher matcher = EXCHANGE.matcher(text.substring(0, length));
            if (!matcher.matches() && !matcher.hitEnd()) {
                return length - 1;
            }
        }
        return EXCHANGE.matcher(text).matches() ? Check.NONE : text.length();
    }

    /** "the index of the first character that these rules do not allow at its place" */
    private static void everySignAtEveryPlace() {
        // six tenants, so that the pattern's [0-5] is right
        String text = LINK + TENANT.repeat(6) + "m007m599m310";
        for (int place = 0; place <= text.length(); place++) {
            for (int sign = 0; sign <= 255; sign++) {
                String rest = place < text.length() ? text.substring(place + 1) : "";
                String changed = text.substring(0, place) + (char) sign + rest;
                errorAt(changed, errorByPattern(changed));
            }
        }
        String one = LINK + TENANT;
        for (int sign = 0; sign <= 255; sign++) {
            errorAt(one + (char) sign, sign == 't' || sign == 'm' ? 21 : 20);
        }
    }

    /** Where the first digits that no number from least to most begins with end; NONE if it is in range. */
    private static int wrongDigit(String digits, int least, int most) {
        for (int place = 0; place < digits.length(); place++) {
            boolean begins = false;
            for (int v = least; v <= most && !begins; v++) {
                String padded = String.format("%0" + digits.length() + "d", v);
                begins = padded.startsWith(digits.substring(0, place + 1));
            }
            if (!begins) {
                return place;
            }
        }
        return Check.NONE;
    }

    /** Every number in the place of one number of a text. */
    private static void numbers(String before, int digits, int least, int most, String after) {
        int end = (int) Math.pow(10, digits);
        for (int v = 0; v < end; v++) {
            String number = String.format("%0" + digits + "d", v);
            boolean isInRange = v >= least && v <= most;
            int wrong = isInRange ? Check.NONE : wrongDigit(number, least, most);
            errorAt(before + number + after, isInRange ? Check.NONE : before.length() + wrong);
        }
    }

    /** "width (001 to 999)", "interval (01 to 20)", "term (01 to 50)", "penalty (00 to 99)" */
    private static void numbersOfTheLink() {
        numbers("L", 3, 1, 999, "020405" + TENANT);
        numbers("L012", 2, 1, 20, "0405" + TENANT);
        numbers("L01202", 2, 1, 50, "05" + TENANT);
        numbers("L0120204", 2, 0, 99, TENANT);
    }

    /** "capacity (001 to 999), two digits for its rate and four digits for its cash" */
    private static void numbersOfATenant() {
        numbers(LINK + "t", 3, 1, 999, "030020");
        numbers(LINK + "t010", 2, 0, 99, "0020");
        for (String cash : new String[] {"0000", "0001", "9999"}) {
            errorAt(LINK + "t01003" + cash, Check.NONE);
        }
        numbers(LINK + TENANT + "t", 3, 1, 999, "030020");
    }

    /** "two digits for its size (01 to 99)" */
    private static void sizesOfAMessage() {
        numbers(LINK + TENANT + "m0", 2, 1, 99, "");
        numbers(LINK + TENANT + "m0", 2, 1, 99, "m001");
    }

    /** "then 1 to 6 tenants" */
    private static void countOfTenants() {
        errorAt(LINK, 10);
        errorAt(LINK + "m001", 10);
        for (int count = 1; count <= 6; count++) {
            String text = LINK + TENANT.repeat(count);
            errorAt(text, Check.NONE);
            Check.is("load of " + count, Check.of(text).about(0), count);
        }
        errorAt(LINK + TENANT.repeat(7), 70);
        errorAt(LINK + TENANT.repeat(6) + "t", 70);
    }

    /** "a digit for its tenant": of one that there is */
    private static void digitOfATenant() {
        for (int count = 1; count <= 6; count++) {
            String text = LINK + TENANT.repeat(count) + "m";
            for (int t = 0; t <= 9; t++) {
                errorAt(text + t + "07", t < count ? Check.NONE : text.length());
            }
            errorAt(text + "/07", text.length());
            errorAt(text + ":07", text.length());
        }
    }

    /** "this includes the digit of a tenant that already has 8 messages" */
    private static void eightMessages() {
        String text = LINK + TENANT.repeat(3);
        for (int t = 0; t < 3; t++) {
            String message = "m" + t + "07";
            errorAt(text + message.repeat(7), Check.NONE);
            errorAt(text + message.repeat(8), Check.NONE);
            errorAt(text + message.repeat(9), 40 + 8 * 4 + 1);
            errorAt(text + message.repeat(8) + "m" + (t + 1) % 3 + "07", Check.NONE);
            CreditExchange x = Check.of(text + message.repeat(8));
            Check.is("the queue of tenant " + t, x.tenant(t, 9), 8);
        }
    }

    /** "and the letter m if all tenants have 8" */
    private static void allQueuesFull() {
        for (int count = 1; count <= 3; count++) {
            StringBuilder text = new StringBuilder(LINK + TENANT.repeat(count));
            for (int k = 0; k < 8 * count; k++) {
                errorAt(text + "m", text.length() + 1);
                text.append("m").append(k % count).append("09");
            }
            errorAt(text.toString(), Check.NONE);
            errorAt(text + "m", text.length());
            errorAt(text + "m009", text.length());
            errorAt(text + "t", text.length());
        }
    }

    /** "at most 160 characters": an exchange text that fills the buffer */
    private static void longestText() {
        CreditExchange x = new CreditExchange();
        Check.type(x, LINK + TENANT.repeat(5) + "m001m102m203m304m405".repeat(5));
        Check.is("errorPosition of 160 characters", x.errorPosition(), Check.NONE);
        Check.is("load of 160 characters", x.load(), 5);
        Check.is("the last message", x.message(4, 4), 5);
        Check.is("the text is kept", x.clearText(), 160);
    }

    private static void loadsTheSmallest() {
        CreditExchange x = Check.of("L001010100t001000000m001");
        Check.is("the smallest numbers", Check.all(x),
                "1,1,1,1,0,0,0,-9,0,0\ntenant 1,0,1,0,0,0,0,0,-9,1,0,-9 queue 1\n");
    }

    private static void loadsTheGreatest() {
        CreditExchange x = Check.of("L999205099t999999999t001000000m099m199");
        Check.is("the greatest numbers", Check.all(x), "2,999,20,50,99,0,0,-9,0,0\n"
                + "tenant 999,99,999,0,9999,0,0,0,-9,1,0,-9 queue 99\n"
                + "tenant 1,0,1,0,0,0,0,0,-9,1,0,-9 queue 99\n");
    }

    /** "Keeps the text." "Forgets all remembered states and empties both save slots." */
    private static void loadsTwice() {
        CreditExchange x = Check.of(LINK + TENANT + "m007");
        String first = Check.all(x);
        x.save(0);
        x.save(1);
        x.push(0, 5);
        Check.is("load again", x.load(), 1);
        Check.is("as the first time", Check.all(x), first);
        Check.is("no remembered state", Check.canUndo(x), Check.NONE);
        Check.is("slot 0 is empty", Check.canRestore(x, 0), Check.NONE);
        Check.is("slot 1 is empty", Check.canRestore(x, 1), Check.NONE);
        Check.is("the text is kept", x.clearText(), 24);
    }

    /** "no orders, no debts, empty stocks, nobody suspended; the time is 0, the house has no cash, and there was no auction" */
    private static void loadReplacesEverything() {
        CreditExchange x = Check.of("L050010250t010010100t010010100m004");
        String first = Check.all(x);
        x.askShort(0, 5, 30);
        x.bid(1, 5, 10);
        x.tick(3);
        x.bid(1, 10, 5);
        x.tick(1);
        x.push(1, 9);
        Check.is("the house has got something", x.about(6), 100);
        for (int n : new int[] {0, 1, 2, 99}) {
            x.ahead(n, 0, 0);
            x.load();
            Check.is("everything is replaced", Check.all(x), first);
            Check.is("no sign of the past", x.ahead(50, 0, 11), Check.NONE);
            x.askShort(0, 5, 30);
            x.bid(1, 5, 10);
            x.tick(1);
            x.push(1, 9);
        }
        CreditExchange y = Check.of("L050010250t001000000t010010100m001");
        y.askShort(0, 1, 30);
        y.bid(1, 1, 30);
        y.tick(3);
        Check.is("suspended until", y.tenant(0, 11), 7);
        y.load();
        Check.is("nobody is suspended", y.tenant(0, 11), Check.NONE);
        Check.is("the message is sent", y.tick(1), 1);
    }

    /** "IllegalStateException if the text is not an exchange text": and nothing is lost then */
    private static void loadRefused() {
        CreditExchange x = Check.of(LINK + TENANT + "m007");
        x.push(0, 5);
        x.save(1);
        x.append('m');
        Check.refuses("load of a text with one character too many", Check.STATE, x, () -> x.load());
        Check.is("the remembered state", Check.canUndo(x), 0);
        Check.is("slot 1", Check.canRestore(x, 1), 0);
        Check.is("its queue", Check.queue(x, 0), "7,5");
        Check.is("slot 0", Check.canRestore(x, 0), Check.NONE);
        Check.is("the text", x.clearText(), 25);
    }
}
