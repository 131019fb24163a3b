/** The boundary cases of a post told in letters: a test for each of the document's words that names one. */
public final class EdgesOfPostsTest {
    private static final Due DUE = new Due("edges of a post");
    private static final String SIX = "p10;p10;p10;p10;p10;p10;";

    public static void main(String[] args) {
        letters();
        manyLetters();
        personMore();
        friendOfOne();
        secretOfOne();
        herSecret();
        forbidden();
        rubber();
        days();
        atLeastOne();
        somethingLacks();
        firstWrongLetter();
        firstKindFirst();
        behindAllAhead();
        allOrNothing();
        letterNoMore();
        nothingCounted();
        DUE.end();
    }

    private static void post(String text, int due) {
        post(new MayReadPencil(), text, due);
    }

    private static void post(MayReadPencil x, String text, int due) {
        DUE.is("post of '" + text + "'", Due.post(x, text), due);
        DUE.is("letters behind '" + text + "'", x.count(8), 0);
    }

    private static void letters() {
        DUE.about("A letter comes: how many there are. -4; -6 (255; 96, too).");
        MayReadPencil x = new MayReadPencil();
        DUE.is("none", x.count(8), 0);
        DUE.is("letter -1", x.feed(-1), -4);
        DUE.is("letter 256", x.feed(256), -6);
        DUE.is("none came", x.count(8), 0);
        DUE.is("letter 0", x.feed(0), 1);
        DUE.is("letter 255", x.feed(255), 2);
        for (int many = 3; many <= 96; many++) {
            DUE.is("one more", x.feed('r'), many);
        }
        DUE.is("letter 97", x.feed('r'), -6);
        DUE.is("letter 97 of -1", x.feed(-1), -4);
        DUE.is("96", x.count(8), 96);
        DUE.is("letter 0 is the first wrong one", x.post(), -1000);
        DUE.is("then they are no more", x.count(8), 0);
        DUE.is("and another is the first", x.feed('r'), 1);
    }

    private static void manyLetters() {
        DUE.about("A POST is told in letters, one by one (96 at most): STATEMENTS, each with \";\" behind:");
        post("r01;".repeat(24), 24);
        post("r01;".repeat(23) + "d01;", 24);
        post("p10;" + "k005;".repeat(16) + "d01;d01;d01;", 20);
        post("r01;".repeat(23) + "r01", -1095);
        post("r01;".repeat(23) + "k00;", -1095);
        post("r01;".repeat(23) + "r01:", -1095);
        post("r01;".repeat(23) + "r99;", -2092);
        post("x05;".repeat(24), 24);
        // Nothing can end within the 96 letters; what lacks is told at the end all the same.
        post("p10;" + "k005;".repeat(18) + "d0", -1096);
        MayReadPencil x = new MayReadPencil();
        DUE.is("24 statements", Due.post(x, "x05;".repeat(24)), 24);
        DUE.is("told an even number of times: no more", x.count(7), 0);
        MayReadPencil cut = new MayReadPencil();
        DUE.is("letters 97 .. 100 do not come: 24 statements", Due.post(cut, "r01;".repeat(25)), 24);
        DUE.is("four are refused", cut.count(16), 4);
    }

    private static void personMore() {
        DUE.about("\"p\" KIND, FIGURE (a digit each): one of the PEOPLE more;");
        post("p00;", 1);
        post("p79;", 1);
        post("p80;", -2000);
        post("p99;", -2000);
        post("p/0;", -1001);
        post("p:0;", -1001);
        post("p0/;", -1002);
        post("p0:;", -1002);
        DUE.about("no such PERSON, DAY above 999, no room)");
        MayReadPencil x = new MayReadPencil();
        post(x, SIX, 6);
        post(x, "p10;", -2000);
        post(x, "r01;p10;", -2004);
        DUE.is("six are there", x.count(0), 6);
        post(SIX + "p10;", -2024);
        post("p10;" + SIX, -2024);
        post(SIX + "r01;p10;p80;", -2028);
    }

    private static void friendOfOne() {
        DUE.about("\"f\" a PERSON, a FRIEND (a digit each);");
        post("f00;", -2000);
        post("p10;f00;", 2);
        post("p10;f05;", 2);
        post("p10;f06;", -2004);
        post("p10;f09;", -2004);
        post("p10;f10;", -2004);
        post(SIX + "f55;", 7);
        post(SIX + "f60;", -2024);
        post("p10;f:0;", -1005);
        post("p10;f0/;", -1006);
        MayReadPencil x = Due.with(SIX, "f50;f05;");
        DUE.is("friend of the first", x.person(0, 2), 5);
        DUE.is("friend of the last", x.person(5, 2), 0);
    }

    private static void secretOfOne() {
        DUE.about("\"k\" a PERSON (a digit), SECRET (2 digits): he KNOWS it;");
        post("k000;", -2000);
        post("p10;k000;", 2);
        post("p10;k039;", 2);
        post("p10;k040;", -2004);
        post("p10;k099;", -2004);
        post("p10;k100;", -2004);
        post(SIX + "k500;", 7);
        post(SIX + "k600;", -2024);
        post("p10;k0/0;", -1006);
        post("p10;k00:;", -1007);
        MayReadPencil x = Due.with("p10;k000;k039;k039;");
        DUE.is("told twice, he knows it once", x.person(0, 3), 2);
    }

    private static void herSecret() {
        DUE.about("\"s\" SECRET (2 digits): SHE KNOWS it;");
        post("s00;", 1);
        post("s39;", 1);
        post("s40;", -2000);
        post("s99;", -2000);
        MayReadPencil x = Due.with("s00;s39;s39;");
        DUE.is("told twice, she knows it once", x.count(6), 2);
    }

    private static void forbidden() {
        DUE.about("\"x\" SECRET (2 digits): SHE FORBIDS it, or, told again, no more;");
        post("x00;", 1);
        post("x39;", 1);
        post("x40;", -2000);
        post("x99;", -2000);
        MayReadPencil x = Due.with("x00;x39;x05;x05;x06;x06;x06;");
        DUE.is("0, 39, 6", x.count(7), 3);
        DUE.is("0", x.forbids(0), 0);
        DUE.is("39", x.forbids(39), 0);
        DUE.is("6", x.forbids(6), 0);
    }

    private static void rubber() {
        DUE.about("\"r\" RUBBER (2 digits);");
        post("r00;", 1);
        post("r18;", 1);
        post("r19;", -2000);
        post("r99;", -2000);
        DUE.is("the least", Due.with("r00;").count(2), 0);
        DUE.is("the greatest", Due.with("r00;r18;").count(2), 18);
    }

    private static void days() {
        DUE.about("\"d\" DAYS (2 digits, 1 .. 60): they go by.");
        post("d00;", -2000);
        post("d01;", 1);
        post("d60;", 1);
        post("d61;", -2000);
        post("d99;", -2000);
        DUE.is("a day", Due.with("d01;").count(1), 1);
        DUE.is("60 days", Due.with("d60;").count(1), 60);
        DUE.about("DAY above 999, no room)");
        MayReadPencil x = Due.with("d60;".repeat(16));
        DUE.is("960 days", x.count(1), 960);
        post(x, "d40;", -2000);
        post(x, "d60;", -2000);
        post(x, "d38;d02;", -2004);
        DUE.is("none went by", x.count(1), 960);
        post(x, "d39;", 1);
        DUE.is("the last day", x.count(1), 999);
        post(x, "d01;", -2000);
        post(x, "d00;", -2000);
        post(x, "r01;", 1);
        post("d60;".repeat(16) + "d39;", 17);
        post("d60;".repeat(16) + "d40;", -2064);
        post("d60;".repeat(17), -2064);
    }

    private static void atLeastOne() {
        DUE.about("At least one STATEMENT.");
        post("", -1000);
        post(";", -1000);
        post("r01;", 1);
        MayReadPencil x = Due.with("p10;");
        x.rubber(3);
        post(x, "", -1000);
        DUE.is("what can be taken back stays", x.count(10), 1);
    }

    private static void somethingLacks() {
        DUE.about("(the end, if something lacks): -1000 less the place;");
        for (String statement : new String[] {"p10;", "f00;", "k005;", "s05;", "x05;", "r05;", "d05;"}) {
            for (int many = 0; many < statement.length(); many++) {
                post(statement.substring(0, many), -1000 - many);
                if (many > 0) {
                    post("r01;p10;" + statement.substring(0, many), -1008 - many);
                }
            }
        }
    }

    private static void firstWrongLetter() {
        DUE.about("FAULT: kind 1 the place of the first letter with which no POST can go on");
        for (String statement : new String[] {"p10;", "f00;", "k005;", "s05;", "x05;", "r05;", "d05;"}) {
            for (int place = 0; place < statement.length(); place++) {
                for (char wrong : "/:a\u0000\u007f\u00ffP ".toCharArray()) {
                    String text = statement.substring(0, place) + wrong + statement.substring(place + 1);
                    post(text, -1000 - place);
                    post("p10;" + text, -1004 - place);
                }
                char other = place == 0 || place == statement.length() - 1 ? '5' : ';';
                post(statement.substring(0, place) + other + statement.substring(place + 1), -1000 - place);
            }
            post(statement + ";", -1000 - statement.length());
            post(statement + "0", -1000 - statement.length());
        }
        for (int letter = 0; letter < 256; letter++) {
            if ("pfksxrd".indexOf(letter) < 0) {
                post("r01;" + (char) letter, -1004);
            }
        }
        for (char digit = '0'; digit <= '9'; digit++) {
            post("r0" + digit + ";", 1);
            post("d1" + digit + ";", 1);
        }
        post("r01;q", -1004);
        post("r0101;", -1003);
    }

    private static void firstKindFirst() {
        DUE.about("-1000 less the place; else kind 2");
        post("p80;q", -1004);
        post("s40;s4", -1006);
        post("d61;d61;d6;", -1010);
        post("k000;", -2000);
        post("k00;", -1003);
    }

    private static void behindAllAhead() {
        DUE.about("the place of the first letter of the first STATEMENT that, behind all ahead of it in the text, "
                + "is not as it must be (a number out of range,");
        post("f00;p10;", -2000);
        post("p10;f00;f10;p10;", -2008);
        post("p10;k000;f10;k100;", -2009);
        post("p10;p10;f10;k100;", 4);
        post("p10;k100;p10;k100;", -2004);
        post("r18;r19;r20;", -2004);
        post("k005;r19;", -2000);
        post("p10;k005;k005;r19;", -2014);
        post("d60;".repeat(16) + "r01;d39;d01;d60;", -2072);
    }

    private static void allOrNothing() {
        DUE.about("Without FAULT all of it comes, with one nothing.");
        MayReadPencil x = Due.with("p10;p10;k005;x05;r07;");
        x.tells(0, 6);
        x.image();
        x.row(2);
        for (String text : new String[] {"p10;k007;f00;s01;x06;r01;d05;r19;", "p10;k007;f00;s01;x06;r01;d05;r1;"}) {
            DUE.isSo("a fault in " + text, Due.post(x, text) <= -1000);
            int[] due = {2, 0, 7, 0, 0, 0, 0, 1, 0, 1, 1};
            for (int what = 0; what < due.length; what++) {
                DUE.is("count(" + what + ") behind " + text, x.count(what), due[what]);
            }
            DUE.is("he knows", x.person(0, 3), 2);
            DUE.is("friend", x.person(0, 2), 1);
        }
        DUE.is("what can be taken back", x.back(), 0);
        DUE.is("is what was told before", x.person(0, 3), 1);
        x.rubber(7);
        DUE.is("without fault", Due.post(x, "p10;k007;f00;s01;x06;r01;d05;"), 7);
        int[] due = {3, 5, 1, 0, 0, 0, 1, 2, 0, 1, 0};
        for (int what = 0; what < due.length; what++) {
            DUE.is("count(" + what + ") of what came", x.count(what), due[what]);
        }
        DUE.is("he knows more", x.person(0, 3), 2);
        DUE.is("friend is another", x.person(0, 2), 0);
        DUE.is("the image is as it was", x.restore(), 0);
        DUE.is("with two people", x.count(0), 2);
    }

    private static void letterNoMore() {
        DUE.about("The letters, which are no more then (with a FAULT neither), are a POST:");
        MayReadPencil x = new MayReadPencil();
        for (String text : new String[] {"", "q", "r0", "r19;", "r01;"}) {
            for (int i = 0; i < text.length(); i++) {
                x.feed(text.charAt(i));
            }
            DUE.is("letters of '" + text + "'", x.count(8), text.length());
            x.post();
            DUE.is("letters behind '" + text + "'", x.count(8), 0);
            DUE.is("a post of none behind '" + text + "'", x.post(), -1000);
        }
    }

    private static void nothingCounted() {
        DUE.about("how many STATEMENTS; the FAULT (nothing is counted).");
        MayReadPencil x = new MayReadPencil();
        for (String text : new String[] {"", "q", "r0", "r19;", "k000;", "d61;", "p80;", "s40;"}) {
            DUE.isSo("a fault in '" + text + "'", Due.post(x, text) < 0);
        }
        for (int what = 11; what <= 16; what++) {
            DUE.is("count(" + what + ")", x.count(what), 0);
        }
    }
}
