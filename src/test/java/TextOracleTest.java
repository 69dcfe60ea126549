import java.util.Random;
import java.util.regex.Matcher;
import java.util.regex.Pattern;

/** Promises 17 and 18 over many texts, held against a pattern for the letters and a look at the numbers. */
final class TextOracleTest {
    private static final String NUMBER = " [0-9]{1,3}";
    private static final String ITEM = "(child" + NUMBER + NUMBER + NUMBER + "|(sack|wears|ahead)" + NUMBER + NUMBER
            + "|(way|up|rope|wind)" + NUMBER + ")";
    private static final Pattern TEXT = Pattern.compile(ITEM + "(;" + ITEM + ")*");
    private static final int TEXTS = 6000;

    private final String text;
    private int children;
    private int sacks;

    private TextOracleTest(String text, int children, int sacks) {
        this.text = text;
        this.children = children;
        this.sacks = sacks;
    }

    static void all() {
        Check.test("17, 18 by the oracle", TextOracleTest::texts);
    }

    private static void texts() {
        Random random = new Random(17);
        int faults = 0;
        for (int i = 0; i < TEXTS; i++) {
            InASackToTheRope x = new InASackToTheRope();
            int children = random.nextInt(4) == 0 ? 7 : random.nextInt(3);
            int sacks = random.nextInt(4) == 0 ? 7 : random.nextInt(3);
            for (int c = 0; c < children; c++) {
                x.child(0, 0, 1);
            }
            for (int s = 0; s < sacks; s++) {
                x.sack(1, 0);
            }
            String text = any(random);
            TextOracleTest oracle = new TextOracleTest(text, children, sacks);
            int fault = oracle.fault();
            faults += fault < 0 ? 0 : 1;
            Check.text(x, 0, text);
            Check.due("field of " + text, x.field(0), fault < 0 ? text.split(";").length : -6);
            Check.due("fault of " + text, x.fault(), fault);
            Check.due("children by " + text, x.status(0), fault < 0 ? oracle.children : children);
            Check.due("SACKS by " + text, x.status(1), fault < 0 ? oracle.sacks : sacks);
        }
        Check.holds("some texts can stand, some can't", faults > TEXTS / 5 && faults < TEXTS * 9 / 10);
    }

    /** A text as the grammar has it, in half of all cases with a sign less, more, or another one. */
    static String any(Random random) {
        StringBuilder text = new StringBuilder();
        int items = 1 + random.nextInt(5);
        for (int i = 0; i < items; i++) {
            text.append(i == 0 ? "" : ";");
            switch (random.nextInt(8)) {
                case 0: add(text, "child", random, random.nextInt(9) == 0 ? 9 : 7, 10, 10); break;
                case 1: add(text, "sack", random, 10, random.nextInt(9) == 0 ? 12 : 10); break;
                case 2: add(text, "wears", random, 3, 3); break;
                case 3: add(text, "ahead", random, 3, 101); break;
                case 4: add(text, "way", random, 202); break;
                case 5: add(text, "up", random, 22); break;
                case 6: add(text, "rope", random, 11); break;
                default: add(text, "wind", random, 62); break;
            }
        }
        if (random.nextInt(3) == 0) {
            int at = random.nextInt(text.length() + 1);
            char sign = "0123456789 ;acdehiklnoprsuwy\u0000x".charAt(random.nextInt(30));
            switch (random.nextInt(4)) {
                case 0: text.insert(at, sign); break;
                case 1: text.setLength(at); break;
                case 2: text.delete(at, at + 1); break;
                default: text.replace(at, at + 1, String.valueOf(sign)); break;
            }
        }
        text.setLength(Math.min(text.length(), 160));
        return text.toString();
    }

    private static void add(StringBuilder text, String word, Random random, int... below) {
        text.append(word);
        for (int b : below) {
            text.append(' ').append("0".repeat(random.nextInt(8) == 0 ? 1 : 0));
            text.append(b == 10 && random.nextBoolean() ? 1 + random.nextInt(9) : random.nextInt(b));
        }
    }

    /** The FAULT of the text over so many children and SACKS, or -1. */
    static int faultOf(String text, int children, int sacks) {
        return new TextOracleTest(text, children, sacks).fault();
    }

    private int fault() {
        int letters = faultOfLetters();
        int place = 0;
        for (String item : text.substring(0, letters < 0 ? text.length() : letters).split(";", -1)) {
            int fault = faultOfItem(item, place);
            if (fault >= 0) {
                return fault;
            }
            place += item.length() + 1;
        }
        return letters;
    }

    /** The first element with which no such text can begin. */
    private int faultOfLetters() {
        for (int n = 0; n <= text.length(); n++) {
            Matcher matcher = TEXT.matcher(text.substring(0, n));
            boolean stands = matcher.matches();
            if (!stands && !matcher.hitEnd()) {
                return n - 1;
            }
            if (n == text.length() && !stands) {
                return n;
            }
        }
        return -1;
    }

    private int faultOfItem(String item, int place) {
        String[] parts = item.split(" ");
        String word = parts[0];
        if (word.equals("child") && children == 8 || word.equals("sack") && sacks == 8) {
            return place;
        }
        int at = place + word.length() + 1;
        for (int i = 1; i < parts.length; i++) {
            int number = Integer.parseInt(parts[i]);
            if (number < least(word, i) || number > most(word, i)) {
                return at;
            }
            at += parts[i].length() + 1;
        }
        children += word.equals("child") && parts.length == 4 ? 1 : 0;
        sacks += word.equals("sack") && parts.length == 3 ? 1 : 0;
        return -1;
    }

    private static int least(String word, int i) {
        return word.equals("child") && i == 3 || word.equals("sack") && i == 1
                || word.equals("way") || word.equals("up") ? 1 : 0;
    }

    private int most(String word, int i) {
        switch (word) {
            case "child": return i == 1 ? 6 : 9;
            case "sack": return 9;
            case "wears": return (i == 1 ? children : sacks) - 1;
            case "ahead": return i == 1 ? children - 1 : 99;
            case "way": return 200;
            case "up": return 20;
            case "rope": return 9;
            default: return 60;
        }
    }
}
