import java.io.IOException;
import java.nio.file.Files;
import java.nio.file.Path;

/** Checks for each sentence of the document, by its words; a sentence without a check fails. */
final class SentencesTest {
    private static final Path PROGRAM = Path.of("src/main/java/SunsetDates.java");

    public static void main(String[] args) throws IOException {
        Sentences s = new Sentences("SentencesTest");
        whatItIs(s);
        parts(s);
        TermSentences.tell(s);
        SyntaxSentences.tell(s);
        CalendarSentences.tell(s);
        ValueSentences.tell(s);
        WhatIfSentences.tell(s);
        TextSentences.tell(s);
        StateSentences.tell(s);
        s.finish();
    }

    private static void whatItIs(Sentences s) {
        s.term("What it is");
        s.says("A calendar of versions that end");
        SunsetDates x = Calendars.shimmed10To20();
        s.equal("a use that costs while its version lives", x.costs(0, 999), 50);
        s.says("at most 512 calls");
        SunsetDates many = Calendars.small();
        int calls = 5;
        while (calls < 510) {
            many.pledge(0, 1, calls);
            calls++;
        }
        s.equal("call 511", many.user(0, 3), 509);
        s.equal("call 512", many.undo(), 3);
    }

    /** The headings stand ahead of the first call of their part, behind the last one of the part before. */
    private static void parts(Sentences s) throws IOException {
        s.term("Terms");
        String program = Files.readString(PROGRAM);
        String[][] parts = {{"calendar", "addVersion", "dropShim"}, {"values", "version", "value"},
            {"what if", "firstStranded", "share"}, {"text", "append", "carryOut"}, {"state", "undo", "digest"}};
        int last = program.indexOf("public SunsetDates(");
        for (String[] part : parts) {
            s.says("the interface says: ---- " + part[0] + ".");
            int heading = program.indexOf("// ---- " + part[0] + "\n");
            int first = program.indexOf(" " + part[1] + "(int", last);
            first = first < 0 ? program.indexOf(" " + part[1] + "()", last) : first;
            s.equal("behind the part before", heading > last ? 1 : 0, 1);
            s.equal("ahead of " + part[1], heading < first ? 1 : 0, 1);
            last = program.indexOf(" " + part[2] + "(", first - 1);
        }
    }
}
