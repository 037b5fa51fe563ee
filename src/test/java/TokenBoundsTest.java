/** Bounds of TOKENS and FAULTS (under 'Terms'): on them, one below, one above. */
public final class TokenBoundsTest {
    private static final String TEN = "window 1 1 1 1;".repeat(10);

    public static void main(String[] args) {
        Due.promises(TokenBoundsTest.class);
    }

    /** Promise 4, TOKENS: "WORDS: small letters, 1 to 7". */
    static void promise04WordsOfSevenLetters() {
        Texts.station("whistle 1;", 1);
        Texts.noStation("whistl 1;", 0, 1);
        Texts.noStation("whistlee 1;", 0, 1);
        Texts.noStation("w 1;", 0, 1);
        Texts.noStation("walk w;", 5, 1);
        Texts.noStation("walk whistles;", 5, 1);
    }

    /** Promise 4, TOKENS: "NUMBERS: 1 to 3 digits": of 3 it is a NUMBER (not as told), of 4 no TOKEN. */
    static void promise04NumbersOfThreeDigits() {
        Texts.station("cost 9;", 1);
        Texts.station("cost 99;", 1);
        Texts.station("cost 099;", 1);
        Texts.noStation("cost 100;", 5, 2);
        Texts.noStation("cost 999;", 5, 2);
        Texts.noStation("cost 0099;", 5, 1);
        Texts.noStation("cost 1000;", 5, 1);
        Texts.noStation("cost 4294967297;", 5, 1);
    }

    /** Promise 4, TOKENS: "with blanks (32, 10) between them or not": no byte beside them is one. */
    static void promise04BlanksAreTwoBytes() {
        Texts.station("walk 1;", 1);
        Texts.station("walk\n1;", 1);
        Texts.station("\n walk \n\n 1 \n;\n ", 1);
        Texts.station("walk 1;cost 1;", 2);
        for (int sign : new int[] {0, 8, 9, 11, 12, 13, 31, 33, 95, 127, 128, 138, 160, 255}) {
            Texts.noStation("walk" + (char) sign + "1;", 4, 1);
        }
    }

    /** Promise 4, TOKENS: "small letters": the bytes beside a and z are none. */
    static void promise04LettersFromAToZ() {
        Texts.noStation("walk `;", 5, 1);
        Texts.noStation("walk {;", 5, 1);
        Texts.noStation("wal{ 1;", 0, 1);
        Texts.noStation("WALK 1;", 0, 1);
        Texts.station("again 1;", 1);
        Texts.noStation("`gain 1;", 0, 1);
        Texts.noStation("cost 5a;", 5, 1);
        Texts.noStation("cost 5z;", 5, 1);
        Texts.noStation("cost 5`;", 6, 1);
        Texts.noStation("cost 5{;", 6, 1);
        Texts.noStation("costz 5;", 0, 1);
        Texts.noStation("cost{ 5;", 4, 1);
    }

    /** Promise 4, TOKENS: "digits": the bytes beside 0 and 9 are none. */
    static void promise04DigitsFrom0To9() {
        Texts.station("cost 0;", 1);
        Texts.station("cost 90;", 1);
        Texts.noStation("cost /;", 5, 1);
        Texts.noStation("cost :;", 5, 1);
        Texts.noStation("cost 1/;", 6, 1);
        Texts.noStation("cost 1:;", 6, 1);
    }

    /** Promise 4, TOKENS: "A WORD, NUMBER goes on as long as small letters and digits do". */
    static void promise04RunsGoOn() {
        Texts.noStation("walk1;", 0, 1);
        Texts.noStation("walk 1a;", 5, 1);
        Texts.noStation("walk 1window;", 5, 1);
        Texts.noStation("1walk 1;", 0, 1);
        Texts.noStation("walk 1;cost1;", 7, 1);
    }

    /** Promise 40, TOKENS: signs need no blanks beside them, WORDS and NUMBERS do. */
    static void promise40BlanksOrNot() {
        Texts.sentence("price<5", 1);
        Texts.sentence("not(open)and(fair)or(ahead)", 7);
        Texts.sentence("price > 5 and open", 2);
        Texts.noSentence("price>5and open", 6, 1);
        Texts.noSentence("notopen", 0, 1);
    }

    /** Promise 40, TOKENS: "; < = > ( )": the bytes beside them are none. */
    static void promise40SignsBesideTheirs() {
        Texts.sentence("price < 5", 1);
        Texts.sentence("price = 5", 1);
        Texts.sentence("price > 5", 1);
        Texts.noSentence("price ; 5", 6, 1);
        Texts.noSentence("price ? 5", 6, 1);
        Texts.noSentence("price : 5", 6, 1);
        Texts.noSentence("' open)", 0, 1);
        Texts.noSentence("(open*", 5, 1);
        Texts.noSentence("(open.", 5, 1);
    }

    /** Promise 5, FAULTS: "the first along the text". */
    static void promise05TheFirstAlongTheText() {
        Texts.noStation("walk 9;walk 1;x", 5, 2);
        Texts.noStation("walk 1;walk 9;x", 7, 3);
        Texts.noStation(TEN + "window 0 0 9 100", 150, 4);
        Texts.noStation("x" + TEN + TEN, 0, 1);
        Texts.noLog("train 61;at 10;x", 6, 2);
        Texts.noSentence("open x (", 5, 1);
    }

    /** Promise 5, FAULTS: "of one TOKEN the least". */
    static void promise05OfOneTokenTheLeast() {
        Texts.noStation("stands 60 1;stands 60 1;", 19, 3);
        Texts.noStation("stands 60 1;stands 61 1;", 19, 2);
        Texts.noStation("stands 60 1;stands 060 0;", 19, 3);
        Texts.noStation(TEN + "windox 1 1 1 1;", 150, 1);
        Texts.noLog("up;".repeat(40) + "xx;", 120, 1);
        Texts.noSentence("open" + " or open".repeat(19) + " or nix", 160, 1);
        Texts.noSentence("(".repeat(8) + "nix", 8, 1);
    }

    /** Promise 5, FAULTS: 1 "the end: how many bytes there are", blanks at the end too. */
    static void promise05AtTheEnd() {
        Texts.noStation("walk", 4, 1);
        Texts.noStation("walk 1", 6, 1);
        Texts.noStation("walk 1 \n ", 9, 1);
        Texts.noStation("window 1 1 1 1;window 1 1 1 1", 29, 1);
        Texts.noStation(Texts.blanks(896) + "walk", 900, 1);
        Texts.noStation(Texts.blanks(895) + "walk", 899, 1);
        Texts.noLog("up", 2, 1);
        Texts.noLog("up;train ", 9, 1);
        Texts.noSentence("", 0, 1);
        Texts.noSentence(" \n", 2, 1);
        Texts.noSentence("open and ", 9, 1);
    }

    /** Promise 4, FAULTS: 1 at "the most bytes told, if there are more": a STATION of 899, 900, 901, 940. */
    static void promise04StationOf900Bytes() {
        Texts.station(Texts.blanks(892) + "walk 2;", 1);
        Texts.station(Texts.blanks(893) + "walk 2;", 1);
        Texts.noStation(Texts.blanks(894) + "walk 2;", 900, 1);
        Texts.station("walk 2;" + Texts.blanks(893), 1);
        Texts.noStation("walk 2;" + Texts.blanks(894), 900, 1);
        Texts.noStation("walk 2;" + Texts.blanks(933), 900, 1);
        Texts.noStation(Texts.blanks(900) + "walk 2;", 900, 1);
    }

    /** Promise 38, FAULTS: 1 at "the most bytes told, if there are more": a LOG of 399, 400, 401. */
    static void promise38LogOf400Bytes() {
        Texts.log(Texts.blanks(391) + "train 5;", -1);
        Texts.log(Texts.blanks(392) + "train 5;", -1);
        Texts.noLog(Texts.blanks(393) + "train 5;", 400, 1);
        Texts.log("train 5;" + Texts.blanks(392), -1);
        Texts.noLog("train 5;" + Texts.blanks(393), 400, 1);
        Texts.noLog("train 5;" + Texts.blanks(932), 400, 1);
    }

    /** Promise 40, FAULTS: 1 at "the most bytes told, if there are more": a SENTENCE of 199, 200, 201. */
    static void promise40SentenceOf200Bytes() {
        Texts.sentence(Texts.blanks(195) + "open", 1);
        Texts.sentence(Texts.blanks(196) + "open", 1);
        Texts.noSentence(Texts.blanks(197) + "open", 200, 1);
        Texts.sentence("open" + Texts.blanks(196), 1);
        Texts.noSentence("open" + Texts.blanks(197), 200, 1);
        Texts.noSentence("open" + Texts.blanks(936), 200, 1);
    }

    /** Promise 5, FAULTS: the most bytes "and no FAULT is ahead": one at 899, 399, 199 is told, one at 900 not. */
    static void promise05AFaultAheadOfTheMostBytes() {
        Texts.noStation(Texts.blanks(899) + ";" + Texts.blanks(20), 899, 1);
        Texts.noStation("walk 9;" + Texts.blanks(920), 5, 2);
        Texts.noStation("cost 1;" + Texts.blanks(892) + "cost 1;", 899, 3);
        Texts.noStation("cost 1;" + Texts.blanks(893) + "cost 1;", 900, 1);
        Texts.noStation(TEN + Texts.blanks(749) + "window", 899, 4);
        Texts.noStation(TEN + Texts.blanks(750) + "window", 900, 1);
        Texts.noLog("up;".repeat(40) + Texts.blanks(279) + "up;", 399, 4);
        Texts.noLog("up;".repeat(40) + Texts.blanks(280) + "up;", 400, 1);
        Texts.noSentence("(".repeat(8) + Texts.blanks(191) + "open", 199, 4);
        Texts.noSentence("(".repeat(8) + Texts.blanks(192) + "open", 200, 1);
    }

    /** Promise 5, FAULTS: "TOKENS that begin ahead of it are read whole". */
    static void promise05TokensAreReadWhole() {
        Texts.noStation(Texts.blanks(894) + "walk 5;", 900, 1);
        Texts.noStation(Texts.blanks(894) + "walk 51;", 899, 2);
        Texts.noStation(Texts.blanks(894) + "walk 005;", 900, 1);
        Texts.noStation(Texts.blanks(894) + "walk 0005;", 899, 1);
        Texts.noStation(Texts.blanks(899) + "walk 1;", 900, 1);
        Texts.noStation(Texts.blanks(899) + "wall 1;", 899, 1);
        Texts.noLog(Texts.blanks(393) + "train 60;", 400, 1);
        Texts.noLog(Texts.blanks(393) + "train 61;", 399, 2);
        Texts.noLog(Texts.blanks(399) + "up;", 400, 1);
        Texts.noLog(Texts.blanks(399) + "upp;", 399, 1);
        Texts.noSentence(Texts.blanks(199) + "open", 200, 1);
        Texts.noSentence(Texts.blanks(199) + "opem", 199, 1);
        Texts.noSentence(Texts.blanks(191) + "price < 1234", 199, 1);
        Texts.noSentence(Texts.blanks(191) + "price < 123", 200, 1);
    }

    /** Promise 5, FAULTS: 3 "at the WORD; of 'stands' at SECONDS". */
    static void promise05WhereItIsToldAgain() {
        Texts.noStation("walk 1; walk 1;", 8, 3);
        Texts.noStation("walk 1; walk", 8, 3);
        Texts.noStation("stands 5 1;stands 5 1;", 18, 3);
        Texts.noStation("stands 5 1;stands 5", 18, 3);
        Texts.noStation("stands 5 1;stands", 17, 1);
        Texts.station("stands 5 1;stands 4 1;stands 6 1;", 3);
        Texts.station("window 1 1 1 1;window 1 1 1 1;", 2);
    }

    /** Promise 5, FAULTS: 4 "(at the LINE's first WORD)", whatever follows it. */
    static void promise05WhereOneMoreIs() {
        String six = "stands 1 1;stands 2 1;stands 3 1;stands 4 1;stands 5 1;stands 6 1;";
        Texts.noStation(TEN + " window", 151, 4);
        Texts.noStation(TEN + " window 0", 151, 4);
        Texts.noStation(six + " stands 7 1;", 67, 4);
        Texts.noStation(six + " stands 1 1;", 67, 4);
        Texts.noLog("up;".repeat(40) + " train", 121, 4);
        Texts.noLog("up;".repeat(40) + " at 99;", 121, 4);
    }

    /** Promise 5: "The kind of the FAULT of the latest station(), log() or sentence()", "0 .. ahead of any". */
    static void promise05OfTheLatestText() {
        WindowSale x = new WindowSale();
        Due.is("ahead of any", x.fault(), 0);
        Due.station(x, "walk 9;");
        Due.is("of a STATION", x.fault(), 2);
        Due.log(x, "x", 0);
        Due.is("of a LOG", x.fault(), 1);
        Due.sentence(x, "(".repeat(9));
        Due.is("of a SENTENCE", x.fault(), 4);
        Due.station(x, "cost 1;cost 1;");
        Due.is("of a STATION again", x.fault(), 3);
        Due.sentence(x, "open");
        Due.is("0 without one", x.fault(), 0);
        Due.sentence(x, "opens");
        Due.log(x, "", 1);
        Due.is("0 of a LOG", x.fault(), 0);
        Due.sentence(x, "opens");
        Due.station(x, "");
        Due.is("0 of a STATION", x.fault(), 0);
    }

    /** Promise 5: "(a log() of -1000 leaves it)", and so does a tape that is no pence. */
    static void promise05LeftByOthers() {
        WindowSale x = Due.at("window 1 1 1 1;");
        Due.station(x, "cost 100;");
        Due.tape(x, "up;");
        Due.is("lives 2", x.log(2), -1000);
        Due.is("it is left", x.fault(), 2);
        Due.is("pence", x.stood(), -1);
        Due.is("left by stood()", x.fault(), 2);
        Due.is("lives 0", x.log(0), -1);
        Due.is("a LOG tells it anew", x.fault(), 0);
    }
}
