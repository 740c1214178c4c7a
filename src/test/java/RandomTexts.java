/** Texts of orders, most of them without a syntax error. */
final class RandomTexts {
    /** An order about the first few versions, features, users and shims, most times. */
    static String order(Numbers numbers, int things) {
        int first = numbers.oneIn(12) ? numbers.below(10) : numbers.below(things);
        int second = numbers.oneIn(12) ? numbers.below(8) : numbers.below(things);
        switch (numbers.below(5)) {
            case 0:
                return "p" + first + second + "@" + day(numbers) + ";";
            case 1:
                return "l" + first + "+" + upTo99(numbers) + ";";
            case 2:
                return "e" + second + "+" + upTo99(numbers) + ";";
            case 3:
                return "s" + first + second + ":" + day(numbers) + "-" + day(numbers) + "," + upTo99(numbers) + ";";
            default:
                return "d" + (numbers.oneIn(4) ? upTo99(numbers) : "" + first) + ";";
        }
    }

    private static String day(Numbers numbers) {
        String day = "" + numbers.below(numbers.from(10, 100, 1000));
        return numbers.oneIn(4) ? ("00" + day).substring(Math.max(0, day.length() - 1)) : day;
    }

    private static String upTo99(Numbers numbers) {
        String number = "" + (1 + numbers.below(99));
        return number.length() == 1 && numbers.oneIn(3) ? "0" + number : number;
    }

    /** Some orders, now and then with a sign that is changed, left out or put in, or cut off. */
    static String text(Numbers numbers) {
        StringBuilder text = new StringBuilder();
        for (int orders = numbers.below(7); orders > 0; orders--) {
            text.append(order(numbers, 2));
        }
        for (int changes = numbers.oneIn(2) ? 1 + numbers.below(2) : 0; changes > 0 && text.length() > 0; changes--) {
            spoil(numbers, text);
        }
        text.setLength(Math.min(100, text.length()));
        return text.toString();
    }

    private static void spoil(Numbers numbers, StringBuilder text) {
        int at = numbers.below(text.length());
        String signs = "0000123456789plesd@+:-,;; ";
        char sign = numbers.oneIn(10) ? (char) numbers.below(128) : signs.charAt(numbers.below(signs.length()));
        switch (numbers.below(4)) {
            case 0 -> text.setCharAt(at, sign);
            case 1 -> text.insert(at, sign);
            case 2 -> text.deleteCharAt(at);
            default -> text.setLength(at);
        }
    }

    private RandomTexts() { }
}
