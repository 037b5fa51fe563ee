/** Texts told to a new object: each is read as told, or refused with a FAULT, and then all stays. */
final class Texts {
    private static final String TWO = "window 7 2 2 9;window 5 3 1 9;";

    private Texts() {
    }

    static void station(String text, int lines) {
        WindowSale x = Due.at(TWO);
        Due.is("station " + brief(text), Due.station(x, text), lines);
        Due.is("fault of station " + brief(text), x.fault(), 0);
        Due.is("tape behind station " + brief(text), x.count(11), 0);
    }

    static void noStation(String text, int place, int kind) {
        WindowSale x = Due.at(TWO);
        Due.is("station " + brief(text), Due.station(x, text), -1 - place);
        Due.is("fault of station " + brief(text), x.fault(), kind);
        Due.is("tape behind station " + brief(text), x.count(11), 0);
        Due.is("the STATION behind " + brief(text), x.count(0), 2);
    }

    /** A LOG without a FAULT; the LINE that is WRONG, NONE if none is. */
    static void log(String text, int wrongLine) {
        WindowSale x = Due.at(TWO);
        Due.is("log " + brief(text), Due.log(x, text, 0), wrongLine);
        Due.is("fault of log " + brief(text), x.fault(), 0);
        Due.is("tape behind log " + brief(text), x.count(11), 0);
    }

    static void noLog(String text, int place, int kind) {
        WindowSale x = Due.at(TWO);
        Due.is("log " + brief(text), Due.log(x, text, 1), -2 - place);
        Due.is("fault of log " + brief(text), x.fault(), kind);
        Due.is("tape behind log " + brief(text), x.count(11), 0);
        Due.is("no train behind log " + brief(text), x.now(5), 0);
    }

    static void sentence(String text, int ones) {
        WindowSale x = Due.at(TWO);
        Due.is("sentence " + brief(text), Due.sentence(x, text), ones);
        Due.is("fault of sentence " + brief(text), x.fault(), 0);
        Due.is("tape behind sentence " + brief(text), x.count(11), 0);
    }

    static void noSentence(String text, int place, int kind) {
        WindowSale x = Due.at(TWO);
        Due.sentence(x, "number = 1");
        Due.is("sentence " + brief(text), Due.sentence(x, text), -1 - place);
        Due.is("fault of sentence " + brief(text), x.fault(), kind);
        Due.is("tape behind sentence " + brief(text), x.count(11), 0);
        Due.is("the SENTENCE behind " + brief(text), x.said(0), 1);
    }

    static String blanks(int many) {
        return " ".repeat(many);
    }

    private static String brief(String text) {
        String told = text.length() <= 60 ? text : ".. " + text.length() + " bytes .." + text.substring(text.length() - 40);
        return "'" + told + "'";
    }
}
