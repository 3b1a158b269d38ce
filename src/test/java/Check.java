/** Counts the answers that are not the ones that are due. */
final class Check {
    private static int wrong = 0;
    private static int seen = 0;

    private Check() {
    }

    static void due(String call, long got, long want) {
        seen++;
        if (got != want) {
            wrong++;
            System.out.println(call + " answered " + got + ", due is " + want);
        }
    }

    /** Puts a text in the place of the one that was. */
    static void text(MatchBureau bureau, String text) {
        bureau.clearText();
        for (int i = 0; i < text.length(); i++) {
            bureau.type(text.charAt(i));
        }
    }

    /** Adds a file with the segments of the text, which stays typed. */
    static int fileWith(MatchBureau bureau, String text) {
        int file = bureau.newFile();
        text(bureau, text);
        bureau.readSegments(file);
        return file;
    }

    /** Adds an entry with the segment of the text, which stays typed. */
    static int entryWith(MatchBureau bureau, String text, int target) {
        text(bureau, text);
        return bureau.remember(target);
    }

    /** Ends the program with exit code 1 if an answer was not the one that is due. */
    static void finish(String test) {
        System.out.println(test + ": " + seen + " answers, " + wrong + " not as due");
        if (wrong != 0 || seen == 0) {
            System.exit(1);
        }
    }
}
