import java.util.Random;

/** Makes table texts, of which about the half have a fault somewhere. */
final class TextMaker {
    private TextMaker() {
    }

    static String make(Random random) {
        StringBuilder text = new StringBuilder();
        int parts = random.nextInt(random.nextInt(3) == 0 ? 16 : 6);
        boolean oneTable = random.nextInt(4) == 0;
        int only = random.nextInt(3);
        for (int i = 0; i < parts; i++) {
            int table = oneTable ? only : random.nextInt(3);
            String part = random.nextInt(4) == 0 ? "d" + table + (1 + random.nextInt(2)) + ";" : entry(random, table);
            if (text.length() + part.length() <= 160) {
                text.append(part);
            }
        }
        int faults = random.nextInt(3) == 0 ? 1 + random.nextInt(2) : 0;
        for (int i = 0; i < faults; i++) {
            spoil(random, text);
        }
        return text.substring(0, Math.min(160, text.length()));
    }

    private static String entry(Random random, int table) {
        boolean link = table < 2 && random.nextInt(4) == 0;
        int what = link ? 17 + table + random.nextInt(2 - table) : random.nextInt(16);
        if (random.nextInt(40) == 0) {
            what = random.nextInt(22);
        }
        int weight = random.nextInt(40) == 0 ? random.nextInt(2) * 1001 : 1 + random.nextInt(random.nextBoolean() ? 9 : 1000);
        int rarity = link && random.nextInt(30) != 0 ? 0 : random.nextInt(4);
        return "e" + table + "," + padded(random, what, 2) + "," + padded(random, weight, 4) + "," + rarity
                + random.nextInt(4) + (random.nextInt(3) == 0 ? "o" : "") + ";";
    }

    private static String padded(Random random, int number, int digits) {
        StringBuilder told = new StringBuilder().append(number);
        while (random.nextInt(4) == 0 && (told.length() < digits || random.nextInt(20) == 0)) {
            told.insert(0, '0');
        }
        return told.toString();
    }

    private static void spoil(Random random, StringBuilder text) {
        String signs = "de,;o0123456789 x-\u0000\u007f";
        char sign = signs.charAt(random.nextInt(signs.length()));
        int place = random.nextInt(text.length() + 1);
        switch (random.nextInt(4)) {
            case 0:
                text.insert(place, sign);
                break;
            case 1:
                text.setLength(place);
                break;
            case 2:
                if (place < text.length()) {
                    text.deleteCharAt(place);
                }
                break;
            default:
                if (place < text.length()) {
                    text.setCharAt(place, sign);
                }
        }
    }
}
