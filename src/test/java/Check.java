/** Counts the answers that are not the ones that are due. */
final class Check {
    private static int wrong = 0;
    private static int seen = 0;
    private static int seenOfSentence = 1;
    private static String sentence = "";

    private Check() {
    }

    /** Names the sentence of the document that the next answers are due by. */
    static void sentence(String words) {
        endSentence();
        sentence = words;
        seenOfSentence = 0;
    }

    private static void endSentence() {
        if (seenOfSentence == 0) {
            wrong++;
            System.out.println("nothing is tested of: " + sentence);
        }
    }

    static void due(String call, long got, long want) {
        seen++;
        seenOfSentence++;
        if (got != want) {
            wrong++;
            String of = sentence.isEmpty() ? "" : " [" + sentence + "]";
            System.out.println(call + " answered " + got + ", due is " + want + of);
        }
    }

    /** Puts a text in the place of the one that was. */
    static void text(MatchBureau bureau, String text) {
        bureau.clearText();
        for (int i = 0; i < text.length(); i++) {
            bureau.type(text.charAt(i));
        }
    }

    /** Adds a file with the segments of the text, which stays typed. */
    static int fileWith(MatchBureau bureau, String text) {
        int file = bureau.newFile();
        text(bureau, text);
        bureau.readSegments(file);
        return file;
    }

    /** Adds an entry with the segment of the text, which stays typed. */
    static int entryWith(MatchBureau bureau, String text, int target) {
        text(bureau, text);
        return bureau.remember(target);
    }

    /** A new bureau with persons of these rates. */
    static MatchBureau withPersons(int... rates) {
        MatchBureau bureau = new MatchBureau();
        for (int rate : rates) {
            bureau.addPerson(rate);
        }
        return bureau;
    }

    /** A word of two letters that is another one for each number below 676. */
    static String word(int number) {
        return "" + (char) ('a' + number / 26) + (char) ('a' + number % 26);
    }

    /** Ends the program with exit code 1 if an answer was not the one that is due. */
    static void finish(String test) {
        endSentence();
        System.out.println(test + ": " + seen + " answers, " + wrong + " not as due");
        if (wrong != 0 || seen == 0) {
            System.exit(1);
        }
    }
}
