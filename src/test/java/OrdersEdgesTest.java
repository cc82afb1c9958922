import java.nio.charset.StandardCharsets;

/** Chapter 3 of the document and promises 18 to 22, sentence by sentence: the edges that they name. */
public final class OrdersEdgesTest {
    private static final Check check = new Check();
    private static final String FAULT = "FAULT: the place (from 0) of the first byte of the first word, number (as wholes) or other byte with which no TEXT goes on";
    private static final String EARLY = "the length, if it ends too early (also ahead of the first LINE)";
    private static final String LINES = "fare a to b is n with n against n hour a to b is n sunday n least n bridge a to b head n oars n";
    private static final String[] EACH_LINE = {"fare 12 to 34 is 56;", "with 12;", "against 12;", "hour 12 to 34 is 56;", "sunday 12;", "least 12;", "bridge 12 to 34;",
        "head 12;", "oars 12;"};
    private static final String[] ONCE = {"with 1;", "against 1;", "sunday 1;", "least 1;", "bridge 1 to 2;", "head 1;", "oars 1;"};

    public static void main(String[] args) {
        feeding();
        bytesInOrder();
        ending();
        lines();
        digits();
        blanks();
        faults();
        cutOff();
        blankAnywhere();
        everyByte();
        twice();
        thirteen();
        orderCalls();
        orderAnswers();
        inForce();
        fareLines();
        withAndAgainst();
        rates();
        million();
        least();
        fareCalls();
        check.end();
    }

    private static Story of(String sentence) {
        return Story.of(check, sentence);
    }

    private static void feeding() {
        Story s = of("Twenty bytes more come to THE TAPE");
        for (int i = 1; i <= 20; i++) s.is("feed(0, 0, 0, 0, 0) = " + 20 * i + "; count(9) = " + 20 * i);
        s.is("feed(0, 0, 0, 0, 0) = -3; count(9) = 400; feed(-1, -1, -1, -1, -1) = -3");
        s = of("FULL: more than 400.").text(" ".repeat(381)).is("count(9) = 381; feed(0, 0, 0, 0, 0) = -3; count(9) = 381; end(380) = 380; feed(0, 0, 0, 0, 0) = 400; feed(0, 0, 0, 0, 0) = -3; end(399) = 399; "
            + "feed(0, 0, 0, 0, 0) = -3; end(400) = -1; count(9) = 399");
        of("FULL: more than 400.").text(" ".repeat(372) + "with 12;").is("feed(0, 0, 0, 0, 0) = 400; feed(0, 0, 0, 0, 0) = -3; end(380) = 380; order(0) = 0");
        of("AN ORDER is a TEXT: THE TAPE (at most 400 bytes).").text(" ".repeat(396) + "fare").is("count(9) = 400; feed(1, 1, 1, 1, 1) = -3; order(0) = -500; count(9) = 0; feed(1, 1, 1, 1, 1) = 20");
        of("AN ORDER is a TEXT: THE TAPE (at most 400 bytes).").order(" ".repeat(392) + "least 1;", 0, 0).order("least 1;" + " ".repeat(392), 0, 1).order(" ".repeat(399) + ";", 0, -499);
    }

    /** Every place of the twenty is looked at: a text that is right with all its bytes but one has its fault there. */
    private static void bytesInOrder() {
        String sentence = "the highest of each number first: how many it has.";
        String text = "with 1; least 2;    ";
        of(sentence).is("feed(" + 0x77697468 + ", " + 0x20313b20 + ", " + 0x6c656173 + ", " + 0x7420323b + ", " + 0x20202020 + ") = 20; order(0) = 0");
        for (int i = 0; i < 20; i++) {
            byte[] b = text.getBytes(StandardCharsets.ISO_8859_1);
            b[i] = (byte) (200 + i);
            int start = i < 4 || i >= 8 && i < 13 ? word(text, i) : i;
            String call = "feed(" + Check.four(b, 0) + ", " + Check.four(b, 4) + ", " + Check.four(b, 8) + ", " + Check.four(b, 12) + ", " + Check.four(b, 16) + ") = 20";
            of(sentence).is(call + "; order(0) = " + (-100 - start));
        }
    }

    /** A foreign byte in a word leaves two halves; the first is no word of the document. */
    private static int word(String text, int i) {
        int start = i;
        while (start > 0 && text.charAt(start - 1) >= 'a') start--;
        return start;
    }

    private static void ending() {
        String sentence = "THE TAPE keeps its first n bytes: n. BAD.";
        of(sentence).is("end(0) = 0; end(1) = -1; end(-1) = -1").text("with 1;").is("end(7) = 7; end(8) = -1; count(9) = 7; end(6) = 6; end(7) = -1; end(-1) = -1; count(9) = 6; order(0) = -106; end(1) = -1; end(0) = 0")
            .far("end(#)", -1);
        of(sentence).text("least 1; with 2; head 3;").is("end(16) = 16; order(0) = 0").text("least 1; with 2; head 3;").is("end(15) = 15; order(0) = -115").text("with 1;").is("end(0) = 0; order(0) = -100");
        of(sentence).text("with 99;").is("end(6) = 6; feed(" + 0x3b202020 + ", 538976288, 538976288, 538976288, 538976288) = 26; order(0) = 0");
    }

    private static void lines() {
        Story s = of(LINES);
        for (int i = 0; i < EACH_LINE.length; i++) s.order(EACH_LINE[i], 0, i);
        s.order(String.join("", EACH_LINE), 0, EACH_LINE.length);
        for (String line : EACH_LINE) {
            String word = line.substring(0, line.indexOf(' '));
            of(LINES).order(word + ";", 0, -100 - word.length()).order(word + " to 1;", 0, -101 - word.length()).order(word + " 1 is 2;", 0, -103 - word.length());
            boolean range = line.contains("to");
            boolean rate = line.contains("is");
            of(LINES).order(word + " 1;", 0, range ? -102 - word.length() : 0).order(word + " 1 to 2;", 0, !range ? -103 - word.length() : rate ? -107 - word.length() : 0)
                .order(word + " 1 to 2 is 3;", 0, !range ? -103 - word.length() : !rate ? -108 - word.length() : 0);
        }
        of("LINES, one or more, each ended by ;").order("", 0, -100).order(";", 0, -100).order("with 1", 0, -106).order("with 1;", 0, 0).order("with 1;least 1", 0, -114)
            .order("with 1;;", 0, -107).order(";with 1;", 0, -100).order("with 1 least 1;", 0, -107).order("with 1;least 1;", 0, 1).order("with 1:", 0, -106).order("with 1,", 0, -106);
    }

    private static void digits() {
        String sentence = "numbers (0 .. 9, at most 5 digits)";
        Story s = of(sentence).is("stairs(0); stairs(1)").order("fare 0 to 1 is 99999;", 0, 0).is("fare(0, 0, 1, 12, 1) = 99999").order("fare 0 to 1 is 100000;", 0, -115)
            .order("fare 0 to 1 is 00000;", 0, 1).is("fare(1, 0, 1, 12, 1) = 0").order("fare 0 to 1 is 000000;", 0, -115).order("fare 00001 to 00001 is 00042;", 0, 2).is("fare(2, 0, 1, 12, 1) = 42")
            .order("fare 000001 to 1 is 1;", 0, -105).order("fare 1 to 000001 is 1;", 0, -110).order("fare 0 to 1 is 1234567890123;", 0, -115);
        for (int d = 0; d < 10; d++) s.order("fare 0 to 1 is " + d + ";", 0, 3 + d).is("fare(" + (3 + d) + ", 0, 1, 12, 1) = " + d);
        for (String word : new String[] {"with", "against", "sunday", "least", "head", "oars"}) {
            of(sentence).order(word + " 123456;", 0, -101 - word.length()).order(word + "123456;", 0, -100 - word.length()).order(word + " 12345;", 0, 0).order(word + " 4294967296;", 0, -101 - word.length());
        }
        of(sentence).order("with /;", 0, -105).order("with :;", 0, -105).order("with -1;", 0, -105).order("with +1;", 0, -105).order("with 1.5;", 0, -106).order("with 1a;", 0, -106)
            .order("with 123456", 0, -105).order("least " + "9".repeat(394), 0, -106);
        of("words (a .. z)").order("With 1;", 0, -100).order("wITH 1;", 0, -100).order("with1;", 0, 0).order("`with 1;", 0, -100).order("{with 1;", 0, -100).order("with{1;", 0, -104).order("with`1;", 0, -104)
            .order("zz 1;", 0, -100).order("aa 1;", 0, -100);
    }

    private static void blanks() {
        of("blanks may stand anywhere else").order("   with   1   ;   least   2   ;   ", 0, 0).order("with1;least2;", 0, 1).order("fare1to2is3;hour1to2is3;bridge1to2;", 0, 2)
            .order("fare  1  to  2  is  3  ;", 0, 3).order("fare 1to 2is 3;", 0, 4);
        of("parted by blanks (32) where two of a sort would else be one").order("farewith 1;", 0, -100).order("fare with 1;", 0, -105).order("with 1 2;", 0, -107).order("with 12;", 0, 0).order("fare 1 tois 2;", 0, -107)
            .order("fare 1 to is 2;", 0, -110);
        for (int b : new int[] {0, 9, 10, 13, 31, 33, 127, 128, 160, 255}) {
            of("parted by blanks (32)").order("with 1" + (char) b + ";", 0, -106).order((char) b + "with 1;", 0, -100).order("with 1;" + (char) b, 0, -107).order("with" + (char) b + "1;", 0, -104);
        }
    }

    private static void fault(String sentence, String text, int place) {
        of(sentence).order(text, 0, -100 - place).is("count(9) = 0; count(3) = 0");
    }

    private static void faults() {
        fault(FAULT, "x", 0);
        fault(FAULT, " x", 1);
        fault(FAULT, "1;", 0);
        fault(FAULT, "to 1;", 0);
        fault(FAULT, "withs 1;", 0);
        fault(FAULT, "wit 1;", 0);
        fault(FAULT, "fare 1 too 2 is 3;", 7);
        fault(FAULT, "fare 1 t 2 is 3;", 7);
        fault(FAULT, "fare 1 is 2 is 3;", 7);
        fault(FAULT, "fare 1 to 2 iss 3;", 12);
        fault(FAULT, "fare 1 to 2 to 3;", 12);
        fault(FAULT, "fare 1 to 2 is 3 4;", 17);
        fault(FAULT, "bridge 1 to 2 is 3;", 14);
        fault(FAULT, "with 1; withal 2;", 8);
        fault(FAULT, "least 1; x 123456 ?", 9);
        fault(FAULT, "least 1; fare 123456 x", 14);
        fault(FAULT, "least 1; ? x", 9);
        fault(FAULT, "least 1; 5;", 9);
        fault(FAULT, "fare 1 to 123456 is 3;", 10);
        fault(FAULT, "fare 1 to 2 is 123456;", 15);
        fault(FAULT, "z".repeat(400), 0);
        fault(FAULT, "with 1;" + " ".repeat(392) + "z", 399);
        fault(EARLY, "", 0);
        fault(EARLY, " ", 1);
        fault(EARLY, " ".repeat(400), 400);
        fault(EARLY, "with", 4);
        fault(EARLY, "with ", 5);
        fault(EARLY, "with 1", 6);
        fault(EARLY, "with 1   ", 9);
        fault(EARLY, "fare 1 to 2 is", 14);
        fault(EARLY, "with 1;least", 12);
        fault(EARLY, "with 1;" + " ".repeat(389) + "head", 400);
        of(EARLY).order("with 1;", 0, 0).order("with 1; ", 0, 1);
    }

    /** Every beginning of a text: a word cut in two is a fault at its first byte, all else ends too early. */
    private static void cutOff() {
        String text = "  " + String.join(" ", EACH_LINE) + " ";
        WaterMen x = new WaterMen();
        for (int n = 0; n <= text.length(); n++) {
            String part = text.substring(0, n);
            boolean cutWord = n > 0 && n < text.length() && isLetter(part.charAt(n - 1)) && isLetter(text.charAt(n));
            int start = n;
            while (cutWord && start > 0 && isLetter(part.charAt(start - 1))) start--;
            boolean whole = part.strip().endsWith(";");
            if (whole && x.count(3) == 20) x = new WaterMen();
            int due = whole ? x.count(3) : -100 - start;
            check.is("'" + FAULT + "': '" + part + "'", Check.order(x, part, 0), due);
        }
    }

    /** A blank more at every place: it parts a word or a number in two, or is nothing. */
    private static void blankAnywhere() {
        String text = String.join("", EACH_LINE);
        for (int i = 0; i <= text.length(); i++) {
            boolean within = i > 0 && i < text.length();
            boolean inWord = within && isLetter(text.charAt(i - 1)) && isLetter(text.charAt(i));
            boolean inNumber = within && isDigit(text.charAt(i - 1)) && isDigit(text.charAt(i));
            int due = inWord ? -100 - word(text, i) : inNumber ? -100 - (i + 1) : 0;
            check.is("'blanks may stand anywhere else': at " + i, Check.order(new WaterMen(), text.substring(0, i) + " " + text.substring(i), 0), due);
        }
    }

    private static boolean isLetter(char c) {
        return c >= 'a' && c <= 'z';
    }

    private static boolean isDigit(char c) {
        return c >= '0' && c <= '9';
    }

    /** Each byte of a text becomes each other one. */
    private static void everyByte() {
        byte[] text = "fare 1 to 22 is 333; with12345;bridge 0 to 9;hour 1 to 2 is 3;head 4 ;".getBytes(StandardCharsets.ISO_8859_1);
        for (int i = 0; i < text.length; i++) {
            for (int b = 0; b < 256; b++) {
                byte[] other = text.clone();
                other[i] = (byte) b;
                WaterMen x = new WaterMen();
                PlainRiver plain = new PlainRiver();
                for (int j = 0; j < other.length; j += 20) {
                    int[] five = {Check.four(other, j), Check.four(other, j + 4), Check.four(other, j + 8), Check.four(other, j + 12), Check.four(other, j + 16)};
                    x.feed(five[0], five[1], five[2], five[3], five[4]);
                    plain.feed(five[0], five[1], five[2], five[3], five[4]);
                }
                x.end(other.length);
                plain.end(other.length);
                check.is("'" + FAULT + "': byte " + b + " at " + i, x.order(0), plain.order(0));
            }
        }
    }

    private static void twice() {
        String sentence = "A second LINE that begins with with, against, sunday, least, bridge, head, oars is a FAULT at its beginning";
        for (String line : ONCE) {
            int n = line.length();
            String word = line.substring(0, line.indexOf(' '));
            fault(sentence, line + line, n);
            fault(sentence, line + "   " + line, n + 3);
            fault(sentence, line + "fare 1 to 2 is 3;" + line, n + 17);
            fault(sentence, line + word, n);
            fault(sentence, line + word + " x", n);
            fault(sentence, line + word + ";", n);
            fault(sentence, line.replace('1', '0') + line, n);
            for (String other : ONCE) if (!other.equals(line)) of(sentence).order(line + other, 0, 0).order(line + other + line, 0, -100 - n - other.length());
        }
        of(sentence).order(String.join("", ONCE), 0, 0).order("fare 1 to 2 is 3;fare 1 to 2 is 3;hour 1 to 2 is 3;hour 1 to 2 is 3;", 0, 1);
        of(sentence).order("with 1;with 2;", 0, -107).order("with 3;", 0, 0);
    }

    private static void thirteen() {
        String sentence = "so is a 13th fare LINE, a 13th hour LINE.";
        for (String word : new String[] {"fare", "hour"}) {
            String other = word.equals("fare") ? "hour" : "fare";
            String line = word + " 1 to 2 is 3;";
            int n = 12 * line.length();
            of(sentence).order(line.repeat(12), 0, 0).order(line.repeat(13), 0, -100 - n).order(line.repeat(12) + "  " + word, 0, -102 - n).order(line.repeat(12) + other + " 1 to 2 is 3;", 0, 1)
                .order(line.repeat(12) + word + "x", 0, -100 - n).order(line.repeat(11) + "with 1;" + line + "least 2;" + line, 0, -115 - n).order(line.repeat(12) + "oars 9;", 0, 2)
                .order(line.repeat(12) + line.replace(" ", "") + "z", 0, -100 - n);
        }
        of(sentence).order("fare1to2is3;hour1to2is3;".repeat(12), 0, 0).order("fare1to2is3;hour1to2is3;".repeat(12) + "fare1to2is3;", 0, -388).order("fare1to2is3;hour1to2is3;".repeat(12) + "hour", 0, -388);
        Story s = of(sentence).is("stairs(0)");
        for (int i = 1; i < 12; i++) s.is("stairs(" + i + ")");
        StringBuilder fares = new StringBuilder();
        for (int i = 0; i < 12; i++) fares.append("fare ").append(i).append(" to ").append(i).append(" is ").append(100 + i).append(';');
        s.order(fares.toString(), 0, 0);
        for (int i = 1; i < 12; i++) s.is("fare(0, 0, " + i + ", 0, 1) = " + (100 + i));
        s.is("stairs(30) = -3; fare(0, 0, 1, 0, 1) = 101").order("fare 50 to 60 is 1;".repeat(12), 0, 1).is("fare(1, 0, 1, 0, 1) = -2; fare(1, 0, 11, 0, 2) = -2");
        StringBuilder hours = new StringBuilder("fare 0 to 60 is 100;");
        for (int i = 0; i < 12; i++) hours.append("hour ").append(i).append(" to ").append(i).append(" is ").append(200 + i).append(';');
        s.order(hours.toString(), 0, 2);
        for (int i = 0; i < 12; i++) s.is("fare(2, 0, 1, " + i + ", 1) = " + (200 + i));
    }

    private static void orderCalls() {
        String sentence = "THE TAPE becomes an ORDER, in force from a DAY (TODAY or any other one, 0 .. 499) on: its number; -100 less its FAULT; THE TAPE is empty then.";
        of(sentence).text("with 1;").is("order(-1) = -1; order(500) = -1; count(9) = 7; count(3) = 0").far("order(#)", -1).is("order(0) = 0; count(9) = 0; count(3) = 1; order(0) = -100; count(3) = 1");
        of(sentence).text("with 1;").is("order(499) = 0; inForce(499, 0) = 0; inForce(498, 0) = -2").day(7).order("with 1;", 6, 1).is("inForce(6, 7) = 1; inForce(5, 7) = -2").order("with 1;", 0, 2)
            .is("inForce(0, 7) = 2").order("with 1;", 7, 3).is("inForce(7, 7) = 3; inForce(6, 7) = 2").order("with 1;", 8, 4).is("inForce(8, 7) = 4; inForce(7, 7) = 3");
        of(sentence).text("with 1; ?").is("order(0) = -108; count(9) = 0; count(3) = 0; order(0) = -100").order("with 1;", 0, 0);
        of(sentence).text("with 1; ?").is("order(500) = -1; count(9) = 9; order(-1) = -1; end(8) = 8; order(0) = 0");
        of(sentence).text("fare 0 to 60 is 5; fare 0 to 60 is 6; hour 0 to 9 is 7; hour 0 to 9 is 8; ?").is("order(0) = -174").text("fare 2 to 2 is 1; hour 1 to 1 is 9;")
            .is("order(0) = 0; stairs(0); stairs(1); stairs(3); fare(0, 0, 1, 0, 1) = -2; fare(0, 1, 2, 0, 1) = 1; fare(0, 1, 2, 2, 1) = 1");
        of(sentence).text("with 9; with 9;").is("order(0) = -108").text("fare 0 to 60 is 100;").is("order(0) = 0; stairs(0); stairs(1); table(1, 5); fare(0, 0, 1, 0, 1) = 100");
    }

    private static void orderAnswers() {
        Story s = of("BAD. FULL: there are 20.");
        for (int i = 0; i < 19; i++) s.order("least " + i + ";", 0, i);
        s.order("least x;", 0, -106).is("count(3) = 19").order("least 19;", 0, 19).is("count(3) = 20; order(0) = -3");
        s.text("least 20;").is("order(0) = -3; count(9) = 9; order(500) = -1; order(-1) = -1; count(9) = 9; order(499) = -3; end(5) = 5; order(0) = -3; count(9) = 5; order(500) = -1; end(0) = 0; order(0) = -3; count(3) = 20");
        s.far("order(#)", -1);
        s.is("stairs(0); stairs(1); fare(19, 0, 1, 0, 1) = -2; fare(20, 0, 1, 0, 1) = -1; inForce(0, 0) = 19");
    }

    private static void inForce() {
        String sentence = "in force on a DAY, AS KNOWN on DAY k: of those made on DAY k or ahead, the one made last of those that are in force from that DAY or an earlier one.";
        Story s = of(sentence).is("inForce(0, 0) = -2").order("with 1;", 10, 0).is("inForce(9, 0) = -2; inForce(10, 0) = 0; inForce(11, 0) = 0; inForce(499, 0) = 0; inForce(10, 499) = 0");
        s.day(5).order("with 1;", 10, 1).is("inForce(10, 4) = 0; inForce(10, 5) = 1; inForce(10, 6) = 1; inForce(9, 5) = -2");
        s.order("with 1;", 20, 2).is("inForce(19, 5) = 1; inForce(20, 5) = 2; inForce(20, 4) = 0");
        s.time(5 * 720 + 719).order("with 1;", 15, 3).is("inForce(14, 5) = 1; inForce(15, 5) = 3; inForce(20, 5) = 3; inForce(20, 4) = 0");
        s.day(6).order("with 1;", 0, 4).is("inForce(0, 5) = -2; inForce(0, 6) = 4; inForce(20, 6) = 4; inForce(20, 5) = 3; inForce(499, 499) = 4; inForce(499, 5) = 3");
        of("ORDERS 0 .. 19, as they were made, each in force from a DAY (that one or later) on").order("with 1;", 3, 0).is("inForce(2, 0) = -2; inForce(3, 0) = 0; inForce(4, 0) = 0");
        of("The ORDER in force on a DAY AS KNOWN on DAY k; NOT: none. BAD.").is("inForce(0, 0) = -2; inForce(499, 499) = -2; inForce(-1, 0) = -1; inForce(500, 0) = -1; inForce(0, -1) = -1; inForce(0, 500) = -1")
            .far("inForce(#, 0)", -1).far("inForce(0, #)", -1).order("with 1;", 1, 0).is("inForce(0, 0) = -2; inForce(0, 500) = -1; inForce(500, 500) = -1; inForce(1, 0) = 0");
    }

    private static Story miles(String sentence) {
        return of(sentence).is("stairs(0); stairs(1); stairs(5); stairs(10); stairs(60)");
    }

    private static void fareLines() {
        String sentence = "FARE of a way of d miles from one of the STAIRS to another in an HOUR of a DAY, by an ORDER: n of the first fare LINE with a <= d <= b (none: there is no FARE).";
        miles(sentence).order("fare 4 to 5 is 45; fare 5 to 9 is 59; fare 10 to 10 is 100; fare 9 to 8 is 98;", 0, 0).is("fare(0, 0, 1, 12, 1) = -2; fare(0, 1, 2, 12, 1) = 45; fare(0, 0, 2, 12, 1) = 45; fare(0, 2, 3, 12, 1) = 45; "
            + "fare(0, 1, 3, 12, 1) = 59; fare(0, 0, 3, 12, 1) = 100; fare(0, 2, 4, 12, 1) = -2; fare(0, 3, 1, 12, 1) = 59; fare(0, 3, 0, 12, 1) = 100");
        miles(sentence).order("fare 2 to 4 is 1; fare 6 to 8 is 2;", 0, 0).is("fare(0, 0, 1, 12, 1) = -2; fare(0, 0, 2, 12, 1) = -2; fare(0, 1, 2, 12, 1) = 1; fare(0, 1, 3, 12, 1) = -2");
        miles(sentence).order("fare 60 to 60 is 6; fare 0 to 99999 is 7;", 0, 0).is("fare(0, 0, 4, 12, 1) = 6; fare(0, 1, 4, 12, 1) = 7; fare(0, 4, 0, 12, 1) = 6");
        miles(sentence).order("fare 5 to 4 is 6; fare 5 to 5 is 0; fare 5 to 5 is 7;", 0, 0).is("fare(0, 0, 2, 12, 1) = 0; fare(0, 1, 2, 12, 1) = -2");
        miles(sentence).order("least 5; with 100; hour 0 to 11 is 100; sunday 100; oars 100;", 0, 0).is("fare(0, 0, 1, 0, 2) = -2; fare(0, 0, 1, 12, 1) = -2");
    }

    private static void withAndAgainst() {
        String sentence = "by the with LINE, if the FLOW of that HOUR goes as the way does; by the against LINE, if it goes the other way";
        Story s = miles(sentence).is("table(1, 1) = 0").order("fare 0 to 60 is 100; with 30; against 700;", 0, 0);
        s.is("fare(0, 0, 1, 0, 1) = 30; fare(0, 1, 0, 0, 1) = 700; fare(0, 0, 1, 1, 1) = 700; fare(0, 1, 0, 1, 1) = 30; fare(0, 0, 1, 2, 1) = 100; fare(0, 1, 0, 2, 1) = 100");
        s.is("fare(0, 0, 1, 11, 1) = 30; fare(0, 0, 1, 12, 1) = 700; fare(0, 0, 1, 23, 1) = 100; fare(0, 0, 1, 22, 1) = 100; fare(0, 0, 1, 24, 1) = 100; fare(0, 0, 1, 34, 1) = 30; fare(0, 0, 1, 35, 1) = 700");
        s.order("fare 0 to 60 is 100; with 0;", 0, 1).is("fare(1, 0, 1, 0, 1) = 0; fare(1, 1, 0, 0, 1) = 100; fare(1, 0, 1, 2, 1) = 100");
        s.order("fare 0 to 60 is 100; against 0;", 0, 2).is("fare(2, 0, 1, 0, 1) = 100; fare(2, 1, 0, 0, 1) = 0; fare(2, 0, 1, 2, 1) = 100");
        s.is("level(0, 3, 2) = 1; fare(0, 0, 1, 2, 1) = 30; fare(0, 0, 1, 3, 1) = 700; table(4, 9) = 0; fare(0, 0, 1, 3, 1) = 700; fare(0, 4, 3, 3, 1) = 30");
    }

    private static void rates() {
        Story s = miles("by each hour LINE with a <= HOUR <= b, in their order").order("fare 0 to 60 is 101; hour 3 to 5 is 50; hour 5 to 6 is 300; hour 9 to 8 is 0; hour 11 to 99 is 200;", 0, 0);
        int[] due = {101, 101, 101, 50, 50, 150, 303, 101, 101, 101, 101, 202};
        for (int h = 0; h < 12; h++) s.is("fare(0, 0, 1, " + h + ", 1) = " + due[h] + "; fare(0, 0, 1, " + (499 * 12 + h) + ", 1) = " + due[h]);
        s.order("fare 0 to 60 is 101; hour 5 to 6 is 300; hour 3 to 5 is 50;", 0, 1).is("fare(1, 0, 1, 5, 1) = 151");
        miles("by the sunday LINE on a SUNDAY").order("fare 0 to 60 is 101; sunday 50;", 0, 0).is("fare(0, 0, 1, 0, 1) = 50; fare(0, 0, 1, 11, 1) = 50; fare(0, 0, 1, 12, 1) = 101; fare(0, 0, 1, 83, 1) = 101; "
            + "fare(0, 0, 1, 84, 1) = 50; fare(0, 0, 1, 95, 1) = 50; fare(0, 0, 1, 96, 1) = 101; fare(0, 0, 1, 5964, 1) = 50; fare(0, 0, 1, 5999, 1) = 101");
        miles("by the oars LINE, if the BOAT has 2.").order("fare 0 to 60 is 101; oars 50;", 0, 0).is("fare(0, 0, 1, 12, 1) = 101; fare(0, 0, 1, 12, 2) = 50");
        String each = "Then, each time times n, divided by 100, the rest away";
        miles(each).order("fare 0 to 60 is 199; sunday 1;", 0, 0).is("fare(0, 0, 1, 0, 1) = 1").order("fare 0 to 60 is 99; sunday 1;", 0, 1).is("fare(1, 0, 1, 0, 1) = 0").order("fare 0 to 60 is 100; sunday 1;", 0, 2)
            .is("fare(2, 0, 1, 0, 1) = 1").order("fare 0 to 60 is 7; sunday 0;", 0, 3).is("fare(3, 0, 1, 0, 1) = 0");
        Story all = miles(each).is("table(1, 9)");
        all.order("fare 0 to 60 is 7; with 130; hour 0 to 0 is 130; sunday 130; oars 130;", 0, 0).is("fare(0, 0, 1, 0, 2) = 18");
        all.order("oars 1000; sunday 10; hour 0 to 0 is 1000; with 10; fare 0 to 60 is 95;", 0, 1).is("fare(1, 0, 1, 0, 2) = 90; fare(1, 0, 1, 0, 1) = 9; fare(1, 1, 0, 0, 2) = 950");
        all.order("oars 10; sunday 1000; hour 0 to 0 is 10; with 1000; fare 0 to 60 is 95;", 0, 2).is("fare(2, 0, 1, 0, 2) = 95; fare(2, 1, 0, 0, 2) = 9");
    }

    private static void million() {
        String sentence = "and 1000000 at most";
        miles(sentence).order("fare 0 to 60 is 99999; sunday 1000;", 0, 0).is("fare(0, 0, 1, 0, 1) = 999990").order("fare 0 to 60 is 10000; sunday 10000;", 0, 1).is("fare(1, 0, 1, 0, 1) = 1000000")
            .order("fare 0 to 60 is 10001; sunday 10000;", 0, 2).is("fare(2, 0, 1, 0, 1) = 1000000").order("fare 0 to 60 is 99999; sunday 99999;", 0, 3).is("fare(3, 0, 1, 0, 1) = 1000000")
            .order("fare 0 to 60 is 99999; sunday 99999; oars 50;", 0, 4).is("fare(4, 0, 1, 0, 2) = 500000").order("fare 0 to 60 is 99999; hour 0 to 0 is 99999; hour 0 to 0 is 10; sunday 200;", 0, 5).is("fare(5, 0, 1, 0, 1) = 200000")
            .is("table(1, 1)").order("fare 0 to 60 is 99999; with 99999; against 99999; hour 0 to 11 is 99999; sunday 99999; oars 99999;", 0, 6).is("fare(6, 0, 1, 0, 2) = 1000000; fare(6, 1, 0, 0, 2) = 1000000; fare(6, 1, 0, 13, 1) = 1000000");
    }

    private static void least() {
        String sentence = "At last it is n of the least LINE at least.";
        miles(sentence).order("least 50; fare 0 to 60 is 49;", 0, 0).is("fare(0, 0, 1, 12, 1) = 50").order("least 50; fare 0 to 60 is 50;", 0, 1).is("fare(1, 0, 1, 12, 1) = 50").order("least 50; fare 0 to 60 is 51;", 0, 2)
            .is("fare(2, 0, 1, 12, 1) = 51").order("least 50; fare 0 to 60 is 10; sunday 200; oars 300;", 0, 3).is("fare(3, 0, 1, 0, 2) = 60; fare(3, 0, 1, 0, 1) = 50; fare(3, 0, 1, 12, 2) = 50")
            .order("least 99999; fare 0 to 60 is 0;", 0, 4).is("fare(4, 0, 1, 12, 1) = 99999").order("least 0; fare 0 to 60 is 0;", 0, 5).is("fare(5, 0, 1, 12, 1) = 0");
    }

    private static void fareCalls() {
        String sentence = "FARE by an ORDER, from STAIRS to others, in an HOUR of a DAY, with so many OARS; NOT: none. BAD.";
        Story s = miles(sentence).is("fare(0, 0, 1, 0, 1) = -1").order("fare 1 to 5 is 9;", 400, 0);
        s.is("fare(0, 0, 1, 0, 1) = 9; fare(0, 0, 0, 0, 1) = -1; fare(0, 4, 4, 0, 1) = -1; fare(0, 0, 5, 0, 1) = -1; fare(0, 5, 0, 0, 1) = -1; fare(0, -1, 0, 0, 1) = -1; fare(0, 0, -1, 0, 1) = -1; fare(1, 0, 1, 0, 1) = -1; fare(-1, 0, 1, 0, 1) = -1; "
            + "fare(0, 0, 1, 0, 0) = -1; fare(0, 0, 1, 0, 3) = -1; fare(0, 0, 1, 0, 2) = 9; fare(0, 0, 4, 0, 1) = -2; fare(0, 0, 4, 0, 3) = -1; fare(0, 0, 4, 6000, 1) = -1; fare(0, 0, 4, -1, 1) = -1; fare(0, 4, 0, 5999, 2) = -2");
        s.far("fare(#, 0, 1, 0, 1)", -1).far("fare(0, #, 1, 0, 1)", -1).far("fare(0, 0, #, 0, 1)", -1).far("fare(0, 0, 1, #, 1)", -1).far("fare(0, 0, 1, 0, #)", -1);
        miles("hours: 12 times the DAY, and the HOUR.").order("fare 0 to 60 is 100; hour 11 to 11 is 200; sunday 300;", 0, 0).is("fare(0, 0, 1, 0, 1) = 300; fare(0, 0, 1, 11, 1) = 600; fare(0, 0, 1, 12, 1) = 100; fare(0, 0, 1, 23, 1) = 200; "
            + "fare(0, 0, 1, 5999, 1) = 200; fare(0, 0, 1, 6000, 1) = -1; fare(0, 0, 1, -1, 1) = -1; fare(0, 0, 1, 5975, 1) = 600; fare(0, 0, 1, 5976, 1) = 100");
    }
}
