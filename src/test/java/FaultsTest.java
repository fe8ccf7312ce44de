import java.util.Arrays;

/** Promise 15: each fault of a file, 1 to 9, and its place. */
public final class FaultsTest {
    public static void main(String[] args) {
        missingEverywhere();
        missingTexts();
        missingByTheirNumber();
        missingInAWholeFile();
        misplacedAtTheStart();
        misplacedBetween();
        misplacedInAPage();
        misplacedBehindTheLast();
        anotherKind();
        fillers();
        misplacedBehindTheVeryLast();
        endsEarly();
        fontFaults();
        depthFaults();
        placeFaults();
        sumFaults();
        noFont();
        tooFar();
        widthsTooFar();
        tooMany();
        Expect.end();
    }

    private static void fault(String what, int fault, int place, Files file) {
        Faulty.file(what, fault, place, file);
    }

    private static void fine(String what, Files file) {
        Expect.same(what, 0, () -> file.fed().read());
    }

    /** Files to which a command may be added: at the start, between, in a page, behind 248 and behind 249. */
    private static Files[] starts() {
        return new Files[] {new Files(), Files.begun(), Files.inPage(), Files.inPage().add(140), Files.begun().last(),
            Files.begun().last().veryLast(0), Files.begun().last().veryLast(2), Files.begun().last().veryLast(4),
            Files.begun().last().veryLast(7)};
    }

    /** How many bytes a command has behind its code if all of them are 0. */
    private static int bytesBehind(int code) {
        for (int first : new int[] {128, 133, 143, 148, 153, 157, 162, 167, 235, 239, 243}) {
            if (code >= first && code < first + 4) {
                return code - first + 1 + (first == 243 ? 14 : 0);
            }
        }
        return switch (code) {
            case 132, 137 -> 8;
            case 139 -> 44;
            case 247 -> 14;
            case 248 -> 28;
            case 249 -> 5;
            default -> 0;
        };
    }

    /** Each command with each number of bytes that is too small, wherever it stands: fault 1 at its code. */
    private static void missingEverywhere() {
        for (int code = 0; code < 256; code++) {
            for (Files f : starts()) {
                int place = f.length();
                f.add(code);
                for (int n = 0; n < bytesBehind(code); n++) {
                    fault("command " + code + " with " + n + " at " + place, 1, place, f);
                    f.add(0);
                }
            }
        }
    }

    private static void missingTexts() {
        cut("239", 239, 3, 'a', 'b', 'c');
        cut("240", 240, 0, 3, 'a', 'b', 'c');
        cut("241", 241, 0, 0, 3, 'a', 'b', 'c');
        cut("242", 242, 0, 0, 0, 3, 'a', 'b', 'c');
        cut("243", 243, 1, 0, 0, 0, 0, 0, 0, 0, 0, 0, 0, 0, 0, 1, 2, 'a', 'b', 'c');
        cut("244", 244, 0, 1, 0, 0, 0, 0, 0, 0, 0, 0, 0, 0, 0, 0, 0, 2, 'a', 'b');
        cut("245", 245, 0, 0, 1, 0, 0, 0, 0, 0, 0, 0, 0, 0, 0, 0, 0, 2, 0, 'a', 'b');
        cut("246", 246, 0, 0, 0, 1, 0, 0, 0, 0, 0, 0, 0, 0, 0, 0, 0, 0, 2, 2, 'a', 'b', 'c', 'd');
        cut("247", 247, 2, 0, 0, 0, 0, 0, 0, 0, 0, 0, 0, 0, 0, 2, 'a', 'b');
    }

    private static void cut(String what, int... command) {
        for (int n = 1; n < command.length; n++) {
            for (Files f : starts()) {
                int place = f.length();
                fault(what + ", " + n + " bytes of it at " + place, 1, place, f.add(Arrays.copyOf(command, n)));
            }
        }
    }

    /** The last number of bytes that is too small, and the first that is not; a number below 0. */
    private static void missingByTheirNumber() {
        for (int n : new int[] {1, 127, 128, 255}) {
            fault("239 with one byte less than " + n, 1, 60, Files.inPage().add(239, n).times(n - 1, 138));
            fault("239 with " + n, 2, 62 + n, Files.inPage().add(239, n).times(n, 138));
            fault("a name with one byte less than " + n, 1, 60,
                    Files.inPage().add(243, 1).four(0, 0, 0).add(n, 255).times(n + 254, 138));
            fault("a name with " + n + " and 255", 2, 76 + n + 255,
                    Files.inPage().add(243, 1).four(0, 0, 0).add(n, 255).times(n + 255, 138));
            fault("a comment with one byte less than " + n, 1, 0,
                    new Files().add(247, 2).four(1, 2, 3).add(n).times(n - 1, 138));
            fault("a comment with " + n, 2, 15 + n, new Files().add(247, 2).four(1, 2, 3).add(n).times(n, 138));
        }
        fault("240 with 65534 of 65535", 1, 60, Files.inPage().add(240, 255, 255).times(65534, 138));
        fault("240 with 65535", 2, 63 + 65535, Files.inPage().add(240, 255, 255).times(65535, 138));
        fault("241 without so many", 1, 60, Files.inPage().add(241, 128, 0, 0).times(1000, 138));
        fault("242 without so many", 1, 60, Files.inPage().add(242, 127, 255, 255, 255).times(1000, 138));
        fault("242 with -1", 1, 60, Files.inPage().add(242).four(-1).times(50, 138).end());
        fault("242 with -2147483648", 1, 60, Files.inPage().add(242).four(Integer.MIN_VALUE).times(50, 138).end());
        fine("242 with 0", Files.inPage().add(242).four(0).end());
        fault("242 with -1 behind 249", 1, 54, Files.begun().last().veryLast(4).add(242).four(-1).times(50, 223));
        fault("239 takes 222 of 223 behind 249", 1, 54, Files.begun().last().veryLast(4).add(239).times(223, 223));
        fault("239 takes 223 behind 249", 2, 54, Files.begun().last().veryLast(4).add(239).times(224, 223));
    }

    /** A whole file, cut at each length: what is missing is told of the command that is cut. */
    private static void missingInAWholeFile() {
        byte[] whole = new Files().first(3).last().veryLast(4).row();
        for (int n = 0; n <= whole.length; n++) {
            DviBytes x = new DviBytes();
            Files.feed(x, Arrays.copyOf(whole, n));
            int due = n == 0 ? 200000 : n < 18 ? 100000 : n == 18 ? 200018 : n < 47 ? 100018 : n == 47 ? 200047
                    : n < 53 ? 100047 : n < 57 ? 200000 + n : 0;
            Expect.same("the first " + n + " bytes of a file", due, x::read);
        }
    }

    private static void misplacedAtTheStart() {
        fault("an empty file", 2, 0, new Files());
        for (int code = 0; code < 256; code++) {
            if (code != 247) {
                fault("starts with " + code, 2, 0, new Files().add(code).times(300, 0));
                fault(code + " alone", 2, 0, new Files().add(code).times(bytesBehind(code), 0));
            }
        }
        fault("247 alone", 2, 15, Files.begun());
    }

    private static boolean isDefinition(int code) {
        return code >= 243 && code <= 246;
    }

    private static void misplacedBetween() {
        for (int code = 0; code < 256; code++) {
            if (code != 138 && code != 139 && code != 248 && !isDefinition(code)) {
                fault(code + " before the pages", 2, 15, Files.begun().add(code).times(300, 0));
                fault(code + " behind a page", 2, 61, Files.inPage().add(140, code).times(300, 0));
                fault(code + " before the pages, no more", 2, 15, Files.begun().add(code).times(bytesBehind(code), 0));
            }
        }
    }

    private static void misplacedInAPage() {
        int[] codes = {139, 247, 248, 249, 250, 251, 252, 253, 254, 255};
        for (int code : codes) {
            fault(code + " in a page", 2, 60, Files.inPage().add(code).times(300, 0));
            fault(code + " in a page, no more", 2, 60, Files.inPage().add(code).times(bytesBehind(code), 0));
        }
        fault("247 again", 2, 15, Files.begun().first(0));
        fault("247 in a page, of the right kind", 2, 60, Files.inPage().first(0));
        fault("249 in a page, of the right kind", 2, 60, Files.inPage().veryLast(4));
        fault("249 without 248", 2, 15, Files.begun().veryLast(4));
        fault("248 again", 2, 44, Files.begun().last().last().veryLast(4));
        fault("a page in a page", 2, 60, Files.inPage().page(0).end());
        fault("248 in a page", 2, 60, Files.inPage().last().veryLast(4));
    }

    private static void misplacedBehindTheLast() {
        for (int code = 0; code < 256; code++) {
            if (code != 138 && code != 249 && !isDefinition(code)) {
                fault(code + " behind 248", 2, 44, Files.begun().last().add(code).times(300, 0));
                fault(code + " behind 248, no more", 2, 44, Files.begun().last().add(code).times(bytesBehind(code), 0));
            }
        }
    }

    /** A 2 that is not 2. */
    private static void anotherKind() {
        for (int kind = 0; kind < 256; kind++) {
            Files first = new Files().add(247, kind).four(7, 8, 9).add(0).add(248).four(-1, 7, 8, 9, 0, 0, 0)
                    .add(249).four(15).add(2).times(4, 223);
            Files last = Files.begun().last().add(249).four(15).add(kind).times(4, 223);
            if (kind == 2) {
                fine("247 of kind 2", first);
                fine("249 of kind 2", last);
            } else {
                fault("247 of kind " + kind, 2, 0, first);
                fault("249 of kind " + kind, 2, 44, last);
            }
        }
    }

    private static void fillers() {
        for (int n = 0; n < 4; n++) {
            fault(n + " fillers", 2, 50 + n, Files.begun().last().veryLast(n));
        }
        for (int n = 4; n < 12; n++) {
            fine(n + " fillers", Files.begun().last().veryLast(n));
        }
        DviBytes x = Files.begun().last().veryLast(4).fed();
        Expect.same("four fillers, read once", 0, x::read);
        x.keep(53);
        Expect.same("the former read's fillers do not count", 200053, x::read);
        x.keep(44);
        Expect.same("nor without 249", 200044, x::read);
    }

    /** What stands behind 249 but 223, when no byte of it is missing. */
    private static void misplacedBehindTheVeryLast() {
        for (int code = 0; code < 256; code++) {
            if (code == 223) {
                continue;
            }
            for (int fillers : new int[] {0, 2, 4, 7}) {
                Files f = Files.begun().last().veryLast(fillers).add(code).times(bytesBehind(code), 0);
                fault(fillers + " fillers and " + code, 2, 50 + fillers, f);
                fault(fillers + " fillers, " + code + " and more", 2, 50 + fillers, f.times(9, 223));
            }
        }
        fault("249 again, as it was", 2, 54, Files.begun().last().veryLast(4).veryLast(4));
        fault("the first of two", 2, 54, Files.begun().last().veryLast(4).add(138, 139));
    }

    private static void endsEarly() {
        fault("in a page", 2, 60, Files.inPage());
        fault("behind a page", 2, 61, Files.inPage().add(140));
        fault("behind 248", 2, 44, Files.begun().last());
        fault("behind 138", 2, 45, Files.begun().last().add(138));
    }

    private static void fontFaults() {
        for (int f = 0; f < 64; f++) {
            fault("font " + f + " is not told", 3, 60, Files.inPage().add(171 + f, 140));
        }
        fault("235", 3, 60, Files.inPage().add(235, 1, 140));
        fault("236, another font is told", 3, 78, Files.inPage().font(1).add(236, 1, 1, 140));
        fault("237", 3, 78, Files.inPage().font(1).add(237, 1, 0, 1, 140));
        fault("238", 3, 78, Files.inPage().font(1).add(238, 1, 0, 0, 1, 140));
        fault("told behind it", 3, 60, Files.inPage().add(172).font(1).end());
        fine("told on a former page", Files.inPage().font(1).add(140).page(0).add(172).end());
        fine("told again", Files.inPage().font(1).font(1).end());
        fault("another check", 3, 78, Files.inPage().font(1).font(1, 6, 8, 9, "", "ab").end());
        fault("another size", 3, 78, Files.inPage().font(1).font(1, 7, 7, 9, "", "ab").end());
        fault("another design", 3, 78, Files.inPage().font(1).font(1, 7, 8, 8, "", "ab").end());
        fault("another name", 3, 78, Files.inPage().font(1).font(1, 7, 8, 9, "", "ac").end());
        fault("a shorter name", 3, 78, Files.inPage().font(1).font(1, 7, 8, 9, "", "a").end());
        fault("a longer name", 3, 78, Files.inPage().font(1).font(1, 7, 8, 9, "", "abc").end());
        for (int i = 0; i < 5; i++) {
            String other = "abcde".substring(0, i) + "z" + "abcde".substring(i + 1);
            fault("another name at " + i, 3, 81, Files.inPage().font(1, 7, 8, 9, "", "abcde")
                    .font(1, 7, 8, 9, "", other).end());
            fault("another name in two parts at " + i, 3, 81, Files.inPage().font(1, 7, 8, 9, "abc", "de")
                    .font(1, 7, 8, 9, other.substring(0, 2), other.substring(2)).end());
        }
        fault("a name, then none", 3, 78, Files.inPage().font(1).font(1, 7, 8, 9, "", "").end());
        fault("no name, then one", 3, 76, Files.inPage().font(1, 7, 8, 9, "", "").font(1).end());
        fault("the first of three counts", 3, 96, Files.inPage().font(1).font(1).font(1, 7, 8, 9, "", "ac").end());
        fault("as another font was told", 3, 95, Files.inPage().font(1).font(2, 7, 8, 9, "", "c")
                .font(1, 7, 8, 9, "", "c").end());
        fine("the same name in other parts", Files.inPage().font(1).font(1, 7, 8, 9, "a", "b").end());
        fine("all in the first part", Files.inPage().font(1).font(1, 7, 8, 9, "ab", "").end());
        fine("another command", Files.inPage().font(1).add(244, 0, 1).four(7, 8, 9).add(0, 2, 'a', 'b').end());
        fault("another one between pages", 3, 79, Files.inPage().font(1).add(140).font(1, 6, 8, 9, "", "ab"));
        fine("told again behind 248", Files.begun().font(1).last().font(1).font(1).veryLast(4));
        fault("another one behind 248", 3, 62, Files.begun().font(1).last().font(1, 6, 8, 9, "", "ab").veryLast(4));
        fault("a new one behind 248", 3, 62, Files.begun().font(1).last().font(2).veryLast(4));
        fine("none behind 248", Files.begun().font(1).last().veryLast(4));
    }

    private static void depthFaults() {
        fault("pop", 4, 60, Files.inPage().add(142).end());
        fault("pop twice", 4, 62, Files.inPage().add(141, 142, 142).end());
        fault("pushed still", 4, 61, Files.inPage().add(141).end());
        fault("pushed still, two", 4, 63, Files.inPage().add(141, 141, 142).end());
        fault("pushed 101", 4, 160, Files.inPage().times(101, 141).times(101, 142).end());
        fine("pushed 100", Files.inPage().times(100, 141).times(100, 142).end());
        fault("pop on a new page", 4, 108, Files.inPage().add(141, 142, 140).page(0).add(142).end());
    }

    private static void placeFaults() {
        fault("a first page behind another", 5, 15, Files.begun().add(139).times(40, 0).four(0).add(140));
        fault("a second page without a former", 5, 61, Files.inPage().add(140, 139).times(40, 0).four(-1).add(140));
        fault("a second page behind another", 5, 61, Files.inPage().add(140, 139).times(40, 0).four(14).add(140));
        fault("a third page behind the first", 5, 107, Files.inPage().add(140).page(0).add(140, 139).times(40, 0)
                .four(15).add(140));
        fault("248 behind no page", 5, 15, Files.begun().last(16, 0, 0, 0, 0).veryLast(4));
        fault("248 behind another page", 5, 61, Files.inPage().add(140).last(1, 0, 0, 0, 0).veryLast(4));
        fault("249 behind another 248", 5, 44, Files.begun().last().add(249).four(14).add(2).times(4, 223));
        fault("249 far behind", 5, 44, Files.begun().last().add(249).four(-1).add(2).times(4, 223));
    }

    private static void sumFaults() {
        fault("numerator", 6, 15, Files.begun().last(0, 1, 0, 0, 0).veryLast(4));
        fault("denominator", 6, 15, Files.begun().last(0, 0, 1, 0, 0).veryLast(4));
        fault("magnification", 6, 15, Files.begun().last(0, 0, 0, 1, 0).veryLast(4));
        fault("pages", 6, 15, Files.begun().last(0, 0, 0, 0, 1).veryLast(4));
        fault("too few pages", 6, 61, Files.inPage().add(140).last(0, 0, 0, 0, -1).veryLast(4));
        fault("256 pages too many", 6, 61, Files.inPage().add(140).last(0, 0, 0, 0, 256).veryLast(4));
        fault("each byte of the numerator", 6, 15, Files.begun().last(0, 1 << 24, 0, 0, 0).veryLast(4));
        fault("each byte of the denominator", 6, 15, Files.begun().last(0, 0, 1 << 16, 0, 0).veryLast(4));
        fault("each byte of the magnification", 6, 15, Files.begun().last(0, 0, 0, 1 << 8, 0).veryLast(4));
        Files pages = Files.begun();
        for (int i = 0; i < 300; i++) {
            pages.page(i).add(140);
        }
        int place = pages.length();
        byte[] row = pages.row();
        fine("300 pages", pages.last().veryLast(4));
        Files low = new Files().add(248).four(place - 46, Files.NUMERATOR, Files.DENOMINATOR, 1000, 0, 0)
                .add(0, 0, 0, 44).add(249).four(place).add(2).times(4, 223);
        fault("300 pages, as 44", 6, place, new Files().row(row).bytes(low));
    }

    private static void noFont() {
        for (int c = 0; c < 128; c++) {
            fault("character " + c, 7, 60, Files.inPage().add(c).end());
        }
        for (int code = 128; code <= 136; code++) {
            if (code != 132) {
                fault("command " + code, 7, 60, Files.inPage().add(code, 0, 0, 0, 0).end());
            }
        }
        fault("told, not taken", 7, 78, Files.inPage().font(1).add(65).end());
        fault("taken on the former page", 7, 125, Files.inPage().font(1).add(172, 140).page(0).add(65).end());
    }

    private static void tooFar() {
        Files edge = Files.inPage().add(146).four(Integer.MAX_VALUE);
        fine("the greatest h", edge.end());
        fault("right", 8, 65, Files.inPage().add(146).four(Integer.MAX_VALUE).add(143, 1).end());
        fault("right back", 8, 65, Files.inPage().add(146).four(Integer.MIN_VALUE).add(143, 255).end());
        fault("w", 8, 65, Files.inPage().add(151).four(Integer.MAX_VALUE).add(147).end());
        fault("x", 8, 65, Files.inPage().add(156).four(Integer.MAX_VALUE).add(152).end());
        fault("a new w", 8, 65, Files.inPage().add(156).four(Integer.MAX_VALUE).add(148, 1).end());
        fault("a new x", 8, 65, Files.inPage().add(156).four(Integer.MAX_VALUE).add(153, 1).end());
        fault("down", 8, 65, Files.inPage().add(160).four(Integer.MAX_VALUE).add(157, 1).end());
        fault("up", 8, 65, Files.inPage().add(160).four(Integer.MIN_VALUE).add(157, 255).end());
        fault("y", 8, 65, Files.inPage().add(165).four(Integer.MIN_VALUE).add(161).end());
        fault("z", 8, 65, Files.inPage().add(170).four(Integer.MIN_VALUE).add(166).end());
        fine("h and v have their own", Files.inPage().add(146).four(Integer.MAX_VALUE).add(160)
                .four(Integer.MAX_VALUE).end());
        fault("a rule is set", 8, 65, Files.inPage().add(146).four(Integer.MAX_VALUE).add(132).four(1, 1).end());
        fault("a rule that is no mark is set", 8, 65,
                Files.inPage().add(146).four(Integer.MAX_VALUE).add(132).four(0, 1).end());
        fine("a rule is put", Files.inPage().add(146).four(Integer.MAX_VALUE).add(137).four(1, 1).end());
        DviBytes x = Files.inPage().font(1).add(172, 146).four(Integer.MAX_VALUE).add(65).end().fed();
        Expect.same("no width", 0, x::read);
        x.width(1, 65, 1);
        Expect.same("a width", 800084, x::read);
        x.width(1, 65, -1);
        Expect.same("a width below 0", 0, x::read);
        DviBytes y = Files.inPage().font(1).add(172, 146).four(Integer.MAX_VALUE).add(133, 65).end().fed();
        y.width(1, 65, 1);
        Expect.same("put, with a width", 0, y::read);
    }

    private static void widthsTooFar() {
        for (int side : new int[] {1, -1}) {
            int edge = side > 0 ? Integer.MAX_VALUE : Integer.MIN_VALUE;
            DviBytes x = Files.inPage().font(1).add(172, 143, side, 65).end().fed();
            x.width(1, 65, edge);
            Expect.same("a width of " + edge + " at " + side, 800081, x::read);
            x.width(1, 65, edge - side);
            Expect.same("a width of " + edge + " less one at " + side, 0, x::read);
        }
    }

    private static void tooMany() {
        fault("2001 characters", 9, 2079, Files.inPage().font(1).add(172).times(2001, 65).end());
        fault("2001st is a rule", 9, 2079, Files.inPage().font(1).add(172).times(2000, 65).add(137).four(1, 1).end());
        fine("what is no mark does not count",
                Files.inPage().font(1).add(172).times(2000, 65).add(137).four(0, 1).add(132).four(1, 0).end());
        fault("on several pages", 9, 2126, Files.inPage().font(1).add(172).times(1999, 65).add(140).page(0)
                .add(172, 65, 65).end());
        Files fonts = Files.begun();
        for (int i = 0; i < 256; i++) {
            fonts.font(i);
        }
        int place = fonts.length();
        fault("257 fonts", 9, place, fonts.add(244, 1, 0).four(0, 0, 0).add(0, 0));
        Files pages = Files.begun();
        for (int i = 0; i < 1300; i++) {
            pages.page(0).add(140);
        }
        int behind = pages.length();
        fault("1301 pages", 9, behind, pages.page(0).add(140).last().veryLast(4));
    }
}
