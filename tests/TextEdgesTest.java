/** The edges of section 12 and of the promises 10 to 14, each sentence by itself. */
public final class TextEdgesTest extends Checks {
    private static final long EIGHT = 0x2020202020202020L;

    /** What is told of a text that is put in place of the one before: its first error, and where it is. */
    private static String error(Seattable x, String text) {
        x.clearText();
        type(x, text);
        return x.errorKind() + " at " + x.errorPlace();
    }

    private static void isRight(Seattable x, String text) {
        is("0 at -1", error(x, text));
    }

    private static void isWrong(Seattable x, String text, int kind, int place) {
        is(kind + " at " + place, error(x, text));
        isRefused(STATE, () -> x.load());
        is(text.length(), x.clearText());
    }

    private static void typing() {
        says("10: those of the six numbers, one number after the other");
        Seattable x = new Seattable();
        is(6, x.type('l', 'a', 'n', 'd', ';', ' '));
        is(1, x.load());
        is(1, x.count(1));
        says("10: of each one the highest byte first");
        is(5, x.type(0x6c616e643bL, 0, 0, 0, 0, 0));
        is(1, x.load());
        says("10: without those that are 0");
        is(5, x.type(0x6c00610000006e00L, 0, 0x0064000000000000L, 0, 0x3b00L, 0));
        is(1, x.load());
        is(3, x.count(1));
        says("10: all eight bytes of a number count, also of one below 0");
        is(8, x.type(-1, 0, 0, 0, 0, 0));
        is("1 at 0", x.errorKind() + " at " + x.errorPlace());
        is(8, x.clearText());
        is(2, x.type(0x8000000000000001L, 0, 0, 0, 0, 0));
        x.clearText();
        is(8, x.type(0x70617274793b2020L, 0, 0, 0, 0, 0));
        is(1, x.load());
        says("10: puts bytes behind the text");
        type(x, "par");
        is(6, type(x, "ty;"));
        is(1, x.load());
        is(2, x.count(0));
        says("10: is no act");
        int acts = x.count(10);
        x.type(1, 2, 3, 4, 5, 6);
        x.clearText();
        is(acts, x.count(10));
    }

    private static void fullText() {
        Seattable x = new Seattable();
        for (int i = 0; i < 12; i++) {
            x.type(EIGHT, EIGHT, EIGHT, EIGHT, EIGHT, EIGHT);
        }
        is(576, x.type(0, 0, 0, 0, 0, 0));
        says("10: IllegalStateException if it would be above 600");
        isRefused(STATE, () -> x.type(EIGHT, EIGHT, EIGHT, ' ', 0, 0));
        isRefused(STATE, () -> x.type(EIGHT, EIGHT, EIGHT, EIGHT, EIGHT, EIGHT));
        isRefused(STATE, () -> x.type(' ', EIGHT, EIGHT, EIGHT, 0, 0));
        isRefused(STATE, () -> x.type(0, 0, EIGHT, EIGHT, EIGHT, ' '));
        isRefused(STATE, () -> x.type(0, EIGHT, 0, EIGHT, ' ', EIGHT));
        says("10: a refused call puts nothing");
        is(576, x.type(0, 0, 0, 0, 0, 0));
        says("10: up to 600 bytes");
        is(600, x.type(0, EIGHT, EIGHT, 0, 0, EIGHT));
        isRefused(STATE, () -> x.type(0, 0, 0, 0, 0, ' '));
        isRefused(STATE, () -> x.type(' ', 0, 0, 0, 0, 0));
        is(600, x.type(0, 0, 0, 0, 0, 0));
        is(0, x.errorKind());
        says("11: empties the text, returns its length before");
        is(600, x.clearText());
        is(0, x.clearText());
        is(0, x.type(0, 0, 0, 0, 0, 0));
        says("11: errors go with the text");
        type(x, "?");
        is(1, x.errorKind());
        is(1, x.clearText());
        is(0, x.errorKind());
        is(NONE, x.errorPlace());
        says("13: the place of an error at the very end of a full text");
        is("2 at 600", error(x, " ".repeat(595) + "party"));
        is("1 at 599", error(x, " ".repeat(599) + "?"));
        is("0 at -1", error(x, " ".repeat(594) + "party;"));
        is("2 at 0", error(x, "x".repeat(600)));
        is("1 at 0", error(x, "9".repeat(600)));
        is("2 at 0", error(x, "0".repeat(600)));
        says("14: a full text with as many statements as there can be");
        x.clearText();
        type(x, "land;" + "sum land 0 1;".repeat(45) + " ".repeat(10));
        is(46, x.load());
    }

    private static void tokens() {
        Seattable x = house(1, 1);
        says("section 12: words are rows of letters a to z");
        isWrong(x, "a;", 2, 0);
        isWrong(x, "z;", 2, 0);
        isWrong(x, "`;", 1, 0);
        isWrong(x, "{;", 1, 0);
        isWrong(x, "Party;", 1, 0);
        isWrong(x, "pArty;", 2, 0);
        isWrong(x, "party{;", 1, 5);
        says("section 12: numbers are rows of digits");
        isWrong(x, "votes 0 0 1/;", 1, 11);
        isWrong(x, "votes 0 0 1:;", 1, 11);
        isWrong(x, "votes 0 0 -1;", 1, 10);
        isWrong(x, "votes 0 0 1.5;", 1, 11);
        isRight(x, "votes 0 0 123456;votes 0 0 7890;");
        isRight(x, "votes 0 0 007;");
        says("section 12: a word is the whole row of letters");
        isWrong(x, "partys;", 2, 0);
        isWrong(x, "part;", 2, 0);
        isWrong(x, "pparty;", 2, 0);
        isWrong(x, "partyland;", 2, 0);
        isWrong(x, "landparty;", 2, 0);
        says("section 12: tokens may stand close together");
        isRight(x, "votes0 0 5;people0 1;sum party0 1;sum land0 1;bar1 2;post1 2;party;land;");
        isWrong(x, "votes0party", 2, 6);
        says("section 12: the bytes 32 and 10 separate tokens");
        isRight(x, " \n\n votes \n 0\n0  5\n;\n ");
        isWrong(x, "par ty;", 2, 0);
        isWrong(x, "votes 0 0 1 2;", 2, 12);
        isWrong(x, "votes 0 0\n1\n2;", 2, 12);
        says("section 12: no other byte does");
        isWrong(x, "party\t;", 1, 5);
        isWrong(x, "party\r;", 1, 5);
        isWrong(x, "party\u000b;", 1, 5);
        isWrong(x, "party\u001f;", 1, 5);
        isWrong(x, "party!;", 1, 5);
        isWrong(x, "party\u00a0;", 1, 5);
        isWrong(x, "party\u00ff;", 1, 5);
        isWrong(x, "\u0001", 1, 0);
    }

    private static void statements() {
        Seattable x = house(2, 2);
        says("section 12: a text of no statement is right");
        isRight(x, "");
        isRight(x, " ");
        isRight(x, "\n");
        says("section 12: each statement has ; behind it");
        isRight(x, "party;");
        isWrong(x, "party", 2, 5);
        isWrong(x, ";", 2, 0);
        isWrong(x, "party;;", 2, 6);
        isWrong(x, "party land;", 2, 6);
        isWrong(x, "party 1;", 2, 6);
        says("section 12: the words of the statements, and no other");
        isWrong(x, "vote 0 0 1;", 2, 0);
        isWrong(x, "bounds 0 0 1;", 2, 0);
        isWrong(x, "7;", 2, 0);
        says("section 12: votes PARTY LAND NUMBER");
        isRight(x, "votes 1 1 1;");
        isWrong(x, "votes ;", 2, 6);
        isWrong(x, "votes 1;", 2, 7);
        isWrong(x, "votes 1 1;", 2, 9);
        isWrong(x, "votes 1 1 1 1;", 2, 12);
        isWrong(x, "votes party 1 1;", 2, 6);
        says("section 12: people LAND NUMBER");
        isRight(x, "people 1 1;");
        isWrong(x, "people ;", 2, 7);
        isWrong(x, "people 1;", 2, 8);
        isWrong(x, "people 1 1 1;", 2, 11);
        isWrong(x, "people land 1;", 2, 7);
        says("section 12: sum ( party PARTY | land LAND ) NUMBER");
        isRight(x, "sum party 1 1;sum land 1 1;");
        isWrong(x, "sum ;", 2, 4);
        isWrong(x, "sum 1 1;", 2, 4);
        isWrong(x, "sum votes 1 1;", 2, 4);
        isWrong(x, "sum people 1 1;", 2, 4);
        isWrong(x, "sum sum 1 1;", 2, 4);
        isWrong(x, "sum lands 1 1;", 2, 4);
        isWrong(x, "sum party ;", 2, 10);
        isWrong(x, "sum land 1;", 2, 10);
        isWrong(x, "sum party land 1;", 2, 10);
        isWrong(x, "sum land 1 1 1;", 2, 13);
        says("section 12: bar NUMBER NUMBER, post NUMBER NUMBER");
        isRight(x, "bar 1 1;post 1 1;");
        isWrong(x, "bar ;", 2, 4);
        isWrong(x, "bar 1;", 2, 5);
        isWrong(x, "bar 1 1 1;", 2, 8);
        isWrong(x, "post bar 1;", 2, 5);
        isWrong(x, "post 1 land;", 2, 7);
    }

    private static void partiesThatAreThere() {
        Seattable x = house(1, 2);
        says("section 12: kind 3, a PARTY or LAND that is not there");
        isRight(x, "votes 0 1 5;people 1 5;sum party 0 5;sum land 1 5;");
        isWrong(x, "votes 1 0 5;", 3, 6);
        isWrong(x, "votes 0 2 5;", 3, 8);
        isWrong(x, "votes 1 2 5;", 3, 6);
        isWrong(x, "people 2 5;", 3, 7);
        isWrong(x, "sum party 1 5;", 3, 10);
        isWrong(x, "sum land 2 5;", 3, 9);
        isWrong(x, "votes 1000000 0 5;", 3, 6);
        Seattable none = new Seattable();
        isWrong(none, "votes 0 0 5;", 3, 6);
        isWrong(none, "people 0 5;", 3, 7);
        isWrong(none, "sum party 0 5;", 3, 10);
        isWrong(none, "sum land 0 5;", 3, 9);
        says("section 12: are there, also by the text ahead");
        isRight(none, "party;land;party;land;votes 1 1 5;people 1 5;sum party 1 5;sum land 1 5;");
        isRight(x, "party;votes 1 1 5;land;votes 1 2 5;");
        isWrong(x, "party;votes 2 1 5;", 3, 12);
        isWrong(x, "land;people 3 5;", 3, 12);
        says("section 12: the text behind does not count");
        isWrong(x, "votes 1 1 5;party;", 3, 6);
        isWrong(x, "people 2 5;land;", 3, 7);
        says("12: is told by what is there when it is asked");
        type(x, "votes 1 2 5;");
        is(3, x.errorKind());
        x.addParty();
        is(8, x.errorPlace());
        x.addLand();
        is(0, x.errorKind());
        is(NONE, x.errorPlace());
        x.undo();
        is(3, x.errorKind());
        isRefused(STATE, () -> x.load());
    }

    private static void tooMany() {
        says("section 12: kind 4, the word party of a 7th party");
        Seattable x = house(5, 4);
        isRight(x, "party;");
        isWrong(x, "party;party;", 4, 6);
        isWrong(house(6, 0), "party;", 4, 0);
        isRight(house(0, 0), "party;party;party;party;party;party;");
        isWrong(house(0, 0), "party;party;party;party;party;party;party;", 4, 36);
        says("section 12: kind 4, the word land of a 6th land");
        isRight(x, "land;");
        isWrong(x, "land;\nland;", 4, 6);
        isWrong(house(6, 5), "land;", 4, 0);
        isRight(house(6, 0), "land;land;land;land;land;");
        isWrong(house(0, 0), "land;land;land;land;land;land;", 4, 25);
        says("section 12: not behind sum");
        isRight(house(6, 5), "sum party 5 1;sum land 4 1;");
        says("section 12: kind 4 is told of the word, also if more is wrong behind it");
        isWrong(house(6, 5), "party", 4, 0);
        isWrong(house(6, 5), "land ?", 4, 0);
    }

    private static void numbers() {
        Seattable x = house(1, 1);
        says("section 12: kind 1, a number above 1,000,000");
        isRight(x, "votes 0 0 1000000;people 0 1000000;");
        isWrong(x, "votes 0 0 1000001;", 1, 10);
        isWrong(x, "people 0 1000001;", 1, 9);
        isWrong(x, "votes 0 0 10000000;", 1, 10);
        isWrong(x, "votes 0 0 100000000000000;", 1, 10);
        isWrong(x, "votes 0 0 9999999999999999999999;", 1, 10);
        isWrong(x, "votes 0 0 4294967297;", 1, 10);
        isWrong(x, "votes 0 0 18446744073709551617;", 1, 10);
        says("section 12: zeros ahead do not make it greater");
        isRight(x, "votes 0 0 00000000000001000000;");
        isWrong(x, "votes 0 0 00000000000001000001;", 1, 10);
        says("section 12: all its digits are the token");
        isWrong(x, "1000001000001;", 1, 0);
        says("section 12: kind 1 of a number also where a PARTY, a LAND or another token should stand");
        isWrong(x, "votes 1000001 0 0;", 1, 6);
        isWrong(x, "sum land 1000001 0;", 1, 9);
        isWrong(x, "party 1000001;", 1, 6);
        isWrong(x, "sum 1000001 0 0;", 1, 4);
        isWrong(x, "bar 1000001 1;", 1, 4);
        isWrong(x, "bar 1 1000001;", 1, 6);
        says("section 12: kind 5, a NUMBER that setSum() would refuse");
        isRight(x, "sum party 0 40;sum land 0 40;");
        isWrong(x, "sum party 0 41;", 5, 12);
        isWrong(x, "sum land 0 41;", 5, 11);
        isWrong(x, "sum land 0 1000000;", 5, 11);
        isRight(x, "sum party 0 0;");
        says("section 12: kind 5, of bar and post the second one, if they are refused together");
        isRight(x, "bar 0 1;bar 1 1;bar 0 1000;bar 1000 1000;post 0 1;post 1 1;post 0 1000;post 1000 1000;");
        isWrong(x, "bar 0 0;", 5, 6);
        isWrong(x, "bar 1 0;", 5, 6);
        isWrong(x, "bar 2 1;", 5, 6);
        isWrong(x, "bar 0 1001;", 5, 6);
        isWrong(x, "bar 1001 1001;", 5, 9);
        isWrong(x, "bar 1001 1000;", 5, 9);
        isWrong(x, "post 0 0;", 5, 7);
        isWrong(x, "post 1000 999;", 5, 10);
        isWrong(x, "post 5 1001;", 5, 7);
        isWrong(x, "post 0 1000000;", 5, 7);
    }

    private static void firstErrors() {
        Seattable x = house(6, 5);
        says("section 12: the first error is that of the first token, from the front on, that has one");
        isWrong(x, "votes 6 5 1000001;", 3, 6);
        isWrong(x, "votes 0 5 1000001;", 3, 8);
        isWrong(x, "sum party 0 41;?", 5, 12);
        isWrong(x, "; ?", 2, 0);
        isWrong(x, "sum party 6 41;", 3, 10);
        isWrong(x, "bar 2 1;party;", 5, 6);
        isWrong(x, "people 0 1;bar 1 0;votes 9 9 9;", 5, 17);
        says("section 12: its place is the length of the text, if it ends too early");
        isWrong(x, "votes", 2, 5);
        isWrong(x, "votes 0", 2, 7);
        isWrong(x, "votes 0 0", 2, 9);
        isWrong(x, "votes 0 0 0", 2, 11);
        isWrong(x, "sum", 2, 3);
        isWrong(x, "bar 1", 2, 5);
        isWrong(x, "votes 0 0 0; sum land", 2, 21);
        isWrong(x, "votes 0 0 0 \n ", 2, 14);
        says("section 12: of several kinds of a token the least one: 1 ahead of 2");
        isWrong(x, "?", 1, 0);
        isWrong(x, "votes ?", 1, 6);
        isWrong(x, "votes 0 0 0 ?", 1, 12);
        isWrong(x, "1000001", 1, 0);
        says("section 12: 1 ahead of 3 and of 5");
        isWrong(x, "people 1000001 0;", 1, 7);
        isWrong(x, "sum land 0 1000001;", 1, 11);
        says("section 12: 2 ahead of 4");
        isWrong(x, "people 0 1 party;", 2, 11);
        isWrong(x, "votes land;", 2, 6);
        says("12: the kind is 0, and 13: the place is NONE, without an error");
        isRight(x, "people 0 1;");
        says("12 and 13: questions change nothing");
        is(11, x.clearText());
        is(11, x.count(10));
    }

    private static void loading() {
        Seattable x = new Seattable();
        says("14: one act, also if it tells nothing");
        is(0, x.load());
        is(1, x.count(10));
        type(x, " \n");
        is(0, x.load());
        is(2, x.count(10));
        is(0, x.clearText());
        says("14: returns how many statements there were; empties it; one act");
        type(x, "party;party;land;land;votes 1 0 60;votes 0 1 40;people 1 5;sum party 1 3;sum land 0 2;"
                + "bar 4 10;post 1 1;");
        is(11, x.load());
        is(3, x.count(10));
        is(0, x.clearText());
        says("section 12: the statements do what the methods do");
        is(60, x.setVotes(1, 0, 60));
        is(40, x.setVotes(0, 1, 40));
        is(0, x.setVotes(0, 0, 0));
        is(5, x.setPeople(1, 5));
        is(0, x.setPeople(0, 0));
        is(3, x.setSum(false, 1, 3));
        is(0, x.setSum(false, 0, 0));
        is(2, x.setSum(true, 0, 2));
        is(0, x.setSum(true, 1, 0));
        is("1 2/5", quota(x, 0, 0, 1, 0));
        x.undo();
        type(x, "bar 41 100;");
        is(1, x.load());
        is("0 0/1", quota(x, 0, 0, 1, 0));
        x.undo();
        says("section 12: post sets the signpost (with t = 1 the 4th seat is at 40 / 2 and 60 / 3)");
        is("2: 2 2|1 3|", dealt(x, 0, 0, 0, 4));
        loadingAgain();
    }

    private static void loadingAgain() {
        says("14: what is told later holds");
        Seattable x = house(1, 1);
        type(x, "votes 0 0 1;votes 0 0 2;votes 0 0 3;");
        is(3, x.load());
        is(3, x.setVotes(0, 0, 0));
        says("14: IllegalStateException if the text has an error; nothing is done then");
        type(x, "party;votes 0 0 9;people 0 4;sum party 0 41;");
        isRefused(STATE, () -> x.load());
        is(1, x.count(0));
        is(0, x.setVotes(0, 0, 0));
        is(0, x.setPeople(0, 0));
        is(44, x.clearText());
        isRefused(STATE, () -> broken("party").load());
        isRefused(STATE, () -> broken("people 0 0;").load());
        says("14: taken back as one act, but the text stays as it is");
        Seattable y = house(0, 1);
        type(y, "party;party;votes 1 0 3;people 0 9;bar 1 2;post 1 3;sum land 0 5;");
        y.load();
        type(y, "party;");
        is(1, y.undo());
        is(0, y.count(0));
        is(0, y.setPeople(0, 1));
        is(0, y.setSum(true, 0, 1));
        is(6, y.clearText());
    }

    private static Seattable broken(String text) {
        Seattable x = new Seattable();
        type(x, text);
        return x;
    }

    public static void main(String[] args) {
        typing();
        fullText();
        tokens();
        statements();
        partiesThatAreThere();
        tooMany();
        numbers();
        firstErrors();
        loading();
        finish("TextEdgesTest");
    }
}
