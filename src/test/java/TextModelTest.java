/** Many texts on the program and on the naive model: each answer of carryOut and each state after it must be the same. */
final class TextModelTest {
    private static final int TEXTS = 6000;
    private static final Check check = new Check("TextModelTest");

    public static void main(String[] args) {
        randomTexts();
        everyByteEverywhere();
        check.finish();
    }

    private static void randomTexts() {
        for (int seed = 1; seed <= TEXTS; seed++) {
            compare(RandomTexts.text(new Numbers(seed)));
        }
    }

    /** Texts of which one byte is changed to each other one, and their beginnings. */
    private static void everyByteEverywhere() {
        String[] texts = {"p01@300;d0;", "l0+09;e1+90;", "e0+5;", "s01:0-099,05;l0+1;", "d00;d1;p11@0;", "p11@00;s11:00-9,9;"};
        for (String text : texts) {
            for (int at = 0; at < text.length(); at++) {
                compare(text.substring(0, at));
                for (char sign = 0; sign < 128; sign++) {
                    String changed = text.substring(0, at) + sign + text.substring(at + 1);
                    int due = NaiveSyntax.errorPosition(changed);
                    check.equal("carryOut of " + changed, errorPosition(changed), due);
                }
            }
        }
    }

    private static int errorPosition(String text) {
        SunsetDates x = new SunsetDates();
        Check.write(x, text);
        int answer = x.carryOut();
        return answer < 0 ? -10 - answer : -1;
    }

    private static void compare(String text) {
        SunsetDates x = new SunsetDates();
        NaiveModel m = new NaiveModel();
        x.addVersion(0, 400);
        m.addVersion(0, 400);
        x.addVersion(200, 900);
        m.addVersion(200, 900);
        x.addFeature(1);
        m.addFeature(1);
        x.addFeature(2);
        m.addFeature(2);
        x.addUser(0, 3);
        m.addUser(0, 3);
        x.addUser(1, 1);
        m.addUser(1, 1);
        x.pledge(0, 1, 250);
        m.pledge(0, 1, 250);
        for (int i = 0; i < text.length(); i++) {
            check.equal("append", x.append(text.charAt(i)), m.append(text.charAt(i)));
        }
        check.equal("carryOut of " + text, x.carryOut(), m.carryOut());
        check.equal("digest after " + text, x.digest(), m.digest());
        check.equal("carryOut again of " + text, x.carryOut(), m.carryOut());
        check.equal("digest after this", x.digest(), m.digest());
        check.equal("undo of " + text, x.undo(), m.undo());
        check.equal("digest after undo of " + text, x.digest(), m.digest());
    }
}
