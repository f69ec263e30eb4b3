/** Terms: what a script is, command by command and limit by limit. */
public final class TermsScriptTest {
    private static final String SIMPLE = "dDpPnNhHgGx=q";
    private static final String LETTERS = "abcdefghijklmnopqrstuvwxyz";
    private static final char[] CHARACTERS = new char[96];

    public static void main(String[] args) {
        CHARACTERS[0] = '\n';
        for (int c = 32; c <= 126; c++) {
            CHARACTERS[c - 31] = (char) c;
        }
        betweenCommands();
        beginnings();
        behindAddresses();
        secondAddresses();
        numbers();
        blanksAndBangs();
        behindCommands();
        behindBlocks();
        blocksAtMostFourDeep();
        labels();
        branches();
        flags();
        exchanges();
        texts();
        replacements();
        groupsInReplacements();
        atMostFortyCommands();
        fullScripts();
        Checks.end();
    }

    private static boolean isIn(String some, char c) {
        return some.indexOf(c) >= 0;
    }

    private static void betweenCommands() {
        for (char c : CHARACTERS) {
            if (isIn(" \n;", c)) {
                Checks.parses("p" + c + "p", 2);
                Checks.parses(c + "p" + c + c + "p" + c, 2);
                Checks.parses("" + c + c, 0);
                Checks.parses("{" + c + "p" + c + "}" + c, 2);
            } else {
                Checks.isNone("p" + c + "p", 1);
            }
        }
        Checks.parses("", 0);
        Checks.parses(" \n;", 0);
    }

    /** Each character alone: a command, left out, the beginning of a command, or none. */
    private static void beginnings() {
        for (char c : CHARACTERS) {
            if (isIn(SIMPLE + "bt", c)) {
                Checks.parses("" + c, 1);
            } else if (isIn(" \n;", c)) {
                Checks.parses("" + c, 0);
            } else {
                Checks.isNone("" + c, isIn("{:syaic!$/123456789", c) ? 1 : 0);
            }
        }
    }

    private static void behindAddresses() {
        for (String address : new String[] {"11", "$", "/a/", "//", "1,22", "/a/,$", "$,/b*/"}) {
            int at = address.length();
            boolean second = address.indexOf(',') > 0;
            for (char c : CHARACTERS) {
                if (isIn(SIMPLE + "bt", c)) {
                    Checks.parses(address + c, 1);
                    Checks.parses(address + "!" + c, 1);
                } else if (isIn("{syaic ", c)) {
                    Checks.isNone(address + c, at + 1);
                    Checks.isNone(address + "!" + c, at + 2);
                } else {
                    boolean goesOn = c == '!' || (c == ',' && !second);
                    Checks.isNone(address + c, goesOn ? at + 1 : at);
                    Checks.isNone(address + "!" + c, at + 1);
                }
            }
        }
    }

    private static void secondAddresses() {
        for (char c : CHARACTERS) {
            Checks.isNone("1," + c, isIn("$/123456789", c) ? 3 : 2);
        }
        Checks.parses("1,2p;$,1p;/a/,/b/p;1,$p;99,99p", 5);
        Checks.isNone("1,2,3p", 3);
        Checks.isNone("1,,2p", 2);
        Checks.isNone("1 ,2p", 2);
        Checks.isNone("1, 2p", 2);
        Checks.isNone(",2p", 0);
        Checks.isNone("1!,2p", 2);
    }

    private static void numbers() {
        for (int number = 1; number <= 99; number++) {
            Checks.parses(number + "p;" + number + "," + number + "p", 2);
        }
        Checks.isNone("0p", 0);
        Checks.isNone("00p", 0);
        Checks.isNone("01p", 0);
        Checks.isNone("1,0p", 2);
        Checks.isNone("1,01p", 2);
        Checks.isNone("100p", 2);
        Checks.isNone("999p", 2);
        Checks.isNone("1,100p", 4);
        Checks.isNone("100,1p", 2);
    }

    private static void blanksAndBangs() {
        Checks.parses("1p;1 p;1!p;1 !p;1! p;1  !  p", 6);
        Checks.parses("1,2 ! {p}", 2);
        Checks.isNone("1!!p", 2);
        Checks.isNone("1! !p", 3);
        Checks.isNone("1\np", 1);
        Checks.isNone("1!\np", 2);
        Checks.isNone("1;p", 1);
        Checks.isNone("1 1p", 2);
    }

    private static void behindCommands() {
        for (String command : new String[] {"p", "=", ":a", "s/a/b/gp1", "y/a/b/", "s///g2p", "1,$!d", "n"}) {
            int at = command.length();
            for (char c : CHARACTERS) {
                if (isIn(" \n;", c)) {
                    Checks.parses(command + c + "p", 2);
                } else {
                    Checks.isNone(command + c + "p", at);
                }
            }
            Checks.parses(command, 1);
            Checks.parses("{" + command + "}", 2);
        }
    }

    private static void behindBlocks() {
        Checks.parses("{p}p", 3);
        Checks.parses("{}{}p", 3);
        Checks.parses("{p}1{p}", 4);
        Checks.parses("{{p}p}p", 5);
        Checks.parses("1!{}", 1);
        Checks.isNone("{", 1);
        Checks.isNone("{p", 2);
        Checks.isNone("{p}}", 3);
        Checks.isNone("}", 0);
        Checks.isNone("p}", 1);
        Checks.isNone("p;}", 2);
        Checks.isNone("1}", 1);
        Checks.isNone("{1}", 2);
        Checks.isNone("{1!}", 3);
        Checks.isNone("{{p}", 4);
    }

    private static void blocksAtMostFourDeep() {
        Checks.parses("{{{p}}}", 4);
        Checks.parses("{{{{p}}}}", 5);
        Checks.parses("{{{{p}}}}{{{{p}}}}", 10);
        Checks.parses("{{{{}{}}{{}}}}", 7);
        Checks.isNone("{{{{{p}}}}}", 4);
        Checks.isNone("{{{{p;1,2!{p}}}}}", 10);
        Checks.isNone("{{{{}{{", 6);
    }

    private static void labels() {
        for (char c : CHARACTERS) {
            if (isIn(LETTERS, c)) {
                Checks.parses(":" + c, 1);
                Checks.isNone(":" + c + ";:" + c, 4);
                Checks.isNone("{:" + c + "};:" + c, 6);
            } else {
                Checks.isNone(":" + c, 1);
            }
        }
        StringBuilder all = new StringBuilder();
        for (char c : LETTERS.toCharArray()) {
            all.append(":").append(c).append(";");
        }
        Checks.parses(all.toString(), 26);
        Checks.isNone(all + ":m", 79);
        Checks.isNone(":ab", 2);
        for (String before : new String[] {"1", "$", "/a/", "1,2", "!", "1!", "1 ", "! "}) {
            Checks.isNone(before + ":a", before.length());
        }
    }

    private static void branches() {
        for (char b : new char[] {'b', 't'}) {
            for (char c : CHARACTERS) {
                if (isIn(LETTERS, c)) {
                    Checks.parses("" + b + c + ";:" + c, 2);
                    Checks.parses(":" + c + ";{" + b + c + "}", 3);
                    Checks.isNone("" + b + c, 0);
                    Checks.isNone("" + b + c + "p", 2);
                } else if (isIn(" \n;", c)) {
                    Checks.parses("" + b + c, 1);
                } else {
                    Checks.isNone("" + b + c, 1);
                }
            }
            Checks.parses("{" + b + "}" + b, 3);
        }
        Checks.isNone("ba;:b", 0);
        Checks.isNone("b k", 2);
    }

    private static void flags() {
        for (char c : CHARACTERS) {
            if (isIn("gp123456789 \n;", c)) {
                Checks.parses("s/a/b/" + c, 1);
            } else {
                Checks.isNone("s/a/b/" + c, 6);
            }
        }
        for (String all : new String[] {"gp5", "g5p", "pg5", "p5g", "5gp", "5pg"}) {
            Checks.parses("s/a/b/" + all, 1);
            for (char twice : "gp51".toCharArray()) {
                Checks.isNone("s/a/b/" + all + twice, 9);
            }
        }
        Checks.isNone("s/a/b/gg", 7);
        Checks.isNone("s/a/b/pp", 7);
        Checks.isNone("s/a/b/11", 7);
        Checks.isNone("s/a/b/19", 7);
        Checks.isNone("s/a/b/10", 7);
        Checks.isNone("s/a/b/gpg", 8);
        Checks.isNone("s/a/b/1g2", 8);
        Checks.parses("s/a/b/g g", 2);
    }

    private static void exchanges() {
        for (char c : CHARACTERS) {
            if (isIn("\n\\", c)) {
                Checks.isNone("y/" + c + "/x/", 2);
                Checks.isNone("y/ab/x" + c + "/", 6);
            } else if (c != '/') {
                Checks.edits("y/" + c + "/_/", "__\n", "" + c + c);
                Checks.edits("y/xy/z" + c + "/", "a" + c + "bz\n", "aybx");
            }
        }
        Checks.isNone("y,a,b,", 1);
        Checks.isNone("y///x/", 4);
        Checks.isNone("y/aa/xy/", 3);
        Checks.isNone("y/abca/wxyz/", 5);
        Checks.isNone("y/abcc/wxyz/", 5);
        Checks.parses("y/ab/xx/", 1);
        Checks.isNone("y/ab//", 5);
        Checks.isNone("y/ab/x/", 6);
        Checks.parses("y/ab/xy/", 1);
        Checks.isNone("y/ab/xyz/", 7);
        String most = new String(CHARACTERS).replaceAll("[\n/\\\\]", "");
        String turned = most.substring(1) + most.charAt(0);
        Checks.edits("y/" + most + "/" + turned + "/", "!b /0]\\ \n", " a~/.[\\~");
    }

    private static void texts() {
        for (String kind : new String[] {"a", "i", "c"}) {
            for (char c : CHARACTERS) {
                if (c == ' ') {
                    Checks.parses(kind + c, 1);
                } else {
                    Checks.isNone(kind + c, 1);
                }
            }
            Checks.isNone(kind, 1);
            Checks.isNone("1," + kind, 2);
            Checks.isNone("1,2!" + kind + "x", 5);
            Checks.parses(kind + " \np", 2);
            Checks.parses(kind + " x\np", 2);
            Checks.parses(kind + " x;p", 1);
            Checks.parses("{" + kind + " x\n}", 2);
            Checks.isNone("{" + kind + " x}", 5);
        }
        String all = new String(CHARACTERS).substring(1);
        Checks.edits("i " + all + "\nd", all + "\n", "a");
        Checks.edits("i  x \ni \nd", " x \n\n", "a");
    }

    private static void replacements() {
        for (char c : CHARACTERS) {
            if ("\n/\\&".indexOf(c) < 0) {
                Checks.edits("s/b/<" + c + ">/", "a<" + c + ">c\n", "abc");
            }
            if (isIn("&/\\", c)) {
                Checks.edits("s/b/<\\" + c + ">/", "a<" + c + ">c\n", "abc");
            } else if ("n123".indexOf(c) < 0) {
                Checks.isNone("s/b/<\\" + c + ">/", 5);
                Checks.isNone("s/\\(a\\)\\(b\\)\\(c\\)/\\" + c + "/", 18);
            }
        }
        Checks.edits("s/b*/<&>/", "<>a\n<bb>a\n", "a", "bba");
        Checks.edits("s/b/\\n/", "a\nc\n", "abc");
        Checks.edits("s/b//", "ac\n", "abc");
        Checks.isNone("s/b/\n/", 4);
        Checks.isNone("s/b///", 5);
        Checks.isNone("s/b/\\/", 6);
        Checks.isNone("s/b/\\", 5);
    }

    private static void groupsInReplacements() {
        Checks.edits("s/\\(.\\)\\(.\\)\\(.\\)/\\1\\1\\2\\3&/", "aabcabcd\n", "abcd");
        Checks.edits("s/\\(.*\\)\\(x*\\)/<\\2\\1>/", "<ab>\n<>\n", "ab", "");
        Checks.edits("s/\\(b\\)/<\\1>/2", "b<b>b\n", "bbb");
        Checks.edits("s/\\([a-c]\\)\\([0-9]\\)/\\2\\1/g", "1a2b3c\n", "a1b2c3");
    }

    private static void atMostFortyCommands() {
        String forty = "p;".repeat(40);
        Checks.parses("p;".repeat(39), 39);
        Checks.parses(forty, 40);
        for (String beyond : new String[] {"p", "{}", ":a", "1p", "$!p", "/a/,2p", "! p", "a x", "s/a/b/", "k", "}"}) {
            Checks.isNone(forty + beyond, 80);
            Checks.isNone(forty + " \n" + beyond, 82);
        }
        Checks.parses(forty + " \n;", 40);
        Checks.parses("{" + "p;".repeat(39) + "}", 40);
        Checks.isNone("{" + forty + "}", 79);
        Checks.parses("{}".repeat(40), 40);
        Checks.isNone("{}".repeat(41), 80);
        Checks.parses(":a;" + "1!ba;".repeat(39), 40);
        Checks.isNone("p;".repeat(39) + "bz", 78);
    }

    private static void fullScripts() {
        String text = "0123456789".repeat(24).substring(2);
        Checks.edits("i " + text, text + "\nx\n", "x");
        Checks.isNone("{a " + text.substring(1), 240);
        Checks.isNone("s/" + "[" + text.substring(1), 240);
        Checks.parses(";".repeat(239) + "p", 1);
        Checks.isNone(";".repeat(239) + "k", 239);
    }
}
