#!/usr/bin/env python3
"""Breaks the class in many small ways and tells which tests see it.

usage: tools/mutants.py [-t Test,Test..] [-n every-nth] [-u former-report] [-o report]

Each mutant changes one place of src/main/java/ThroneBacks.java. The report has, for each mutant, its line, what was
changed, and which tests saw it; behind all, the mutants that none saw, and for each sentence (see SentencesTest) the
mutant that it saw together with the fewest others. With -u only those that a former report, by the same source, has as
unseen. Not run by .ci/run: it takes some minutes.
"""
import argparse
import concurrent.futures
import glob
import os
import re
import shutil
import subprocess
import sys
import tempfile

ROOT = os.path.dirname(os.path.dirname(os.path.abspath(__file__)))
SOURCE = os.path.join(ROOT, 'src/main/java/ThroneBacks.java')
TESTS = os.path.join(ROOT, 'src/test/java')

SWAPS = [
    (r'(?<![<>=!-])<(?![<=])', ['<=', '>=']), (r'(?<![<>=-])>(?![>=])', ['>=', '<=']), (r'<=', ['<', '>']),
    (r'(?<!>)>=', ['>', '<']), (r'==', ['!=']), (r'!=', ['==']), (r'&&', ['||']), (r'\|\|', ['&&']),
    (r'(?<= )\+(?= )', ['-']), (r'(?<= )-(?= )', ['+']), (r'(?<= )\*(?= )', ['+']), (r'(?<= )/(?= )', ['*']),
    (r'(?<= )%(?= )', ['/']), (r'(?<=\w)\+\+', ['--']), (r'\+=', ['-=', '=']), (r'-=', ['+=']), (r'\|=', ['=', '&=']),
    (r'&=', ['=', '|=']), (r'(?<= )&(?= )', ['|']), (r'!(?=[a-z(])', ['']), (r'\btrue\b', ['false']),
    (r'\bfalse\b', ['true']), (r'\bNONE\b', ['0', '(-2)']), (r'Math\.min', ['Math.max']), (r'Math\.max', ['Math.min']),
    (r'(?<![\w.])(\d[\d_]*)(?![\w.])', None),
]


def mutants(text):
    start = text.index('public final class')
    for found in re.finditer(r'[^\n]*\n', text[start:]):
        begin, line = start + found.start(), found.group()
        bare = line.strip()
        if bare.startswith(('/*', '*', '//', 'import', 'package')) or 'public static final int NONE' in line:
            continue
        code = line.split('//')[0]
        for pattern, others in SWAPS:
            for place in re.finditer(pattern, code):
                if code[:place.start()].count('"') % 2 == 1:
                    continue
                if others is None:
                    number = int(place.group(1).replace('_', ''))
                    choices = [str(number + 1), str(number - 1) if number > 0 else '(-1)']
                else:
                    choices = others
                for choice in choices:
                    at = begin + place.start()
                    yield at, text[:at] + choice + text[begin + place.end():], place.group() + ' to ' + (choice or 'nothing')
        if re.match(r'[\w.\[\]]+(\(.*\)|\s*[-+|&*/]?=.*|\+\+|--);$', bare) and not bare.startswith('return'):
            yield begin, text[:begin] + text[begin + len(line):], 'without the line'
        if re.match(r'if \(.*\) \{$', bare):
            inner = bare[4:-3]
            yield begin, text[:begin] + line.replace('if (' + inner + ')', 'if (false && (' + inner + '))') + text[begin + len(line):], 'if never'


def run(job):
    number, at, mutant, change, tests, original = job
    line = original.count('\n', 0, at) + 1
    place = tempfile.mkdtemp()
    try:
        file = os.path.join(place, 'ThroneBacks.java')
        with open(file, 'w') as out:
            out.write(mutant)
        made = subprocess.run(['javac', '--release', '17', '-proc:none', '-nowarn', '-d', place, file], capture_output=True)
        if made.returncode != 0:
            return number, line, change, None, set()
        seen, sentences = [], set()
        for test in tests:
            try:
                ran = subprocess.run(['java', '-XX:TieredStopAtLevel=1', '-Xss2m', '-cp', place + ':' + CLASSES, test], cwd=ROOT,
                                     capture_output=True, text=True, timeout=20, errors='replace')
                if ran.returncode != 0:
                    seen.append(test)
                    sentences |= set(re.findall(r'^(promise \d+, ".*?"): ', ran.stdout, re.M))
            except subprocess.TimeoutExpired:
                seen.append(test + ' (does not end)')
        return number, line, change, seen, sentences
    finally:
        shutil.rmtree(place, ignore_errors=True)


def main():
    global CLASSES
    parser = argparse.ArgumentParser()
    parser.add_argument('-t', default='SentencesTest')
    parser.add_argument('-n', type=int, default=1)
    parser.add_argument('-u')
    parser.add_argument('-o', default='/tmp/mutants.txt')
    options = parser.parse_args()
    tests = options.t.split(',')
    CLASSES = tempfile.mkdtemp()
    sources = [SOURCE] + glob.glob(TESTS + '/*.java') + glob.glob(TESTS + '/*/*.java')
    subprocess.run(['javac', '--release', '17', '-d', CLASSES] + sources, check=True)
    with open(SOURCE) as file:
        text = file.read()
    jobs = [(i,) + m + (tests, text) for i, m in enumerate(mutants(text)) if i % options.n == 0]
    if options.u:
        with open(options.u) as former:
            numbers = {int(n) for n in re.findall(r'^(\d+) line .*: UNSEEN$', former.read(), re.M)}
        jobs = [job for job in jobs if job[0] in numbers]
    told = set()
    words = subprocess.run(['java', '-Dtold=yes', '-cp', CLASSES, 'SentencesTest'], cwd=ROOT, capture_output=True, text=True)
    told |= set(re.findall(r'^(promise \d+, ".*?"): told$', words.stdout, re.M))
    unseen, closest, made = [], {}, 0
    with open(options.o, 'w') as report, concurrent.futures.ThreadPoolExecutor(os.cpu_count()) as pool:
        for number, line, change, seen, sentences in pool.map(run, jobs):
            if seen is None:
                continue
            made += 1
            for words in sentences:
                if words not in closest or len(sentences) < closest[words][0]:
                    closest[words] = (len(sentences), 'line %d, %s' % (line, change))
            report.write('%d line %d, %s: %s\n' % (number, line, change, ', '.join(seen) or 'UNSEEN'))
            for words in sorted(sentences):
                report.write('    ' + words + '\n')
            if not seen:
                unseen.append('line %d, %s: %s' % (line, change, text.split('\n')[line - 1].strip()))
        for row in unseen:
            report.write('unseen: ' + row + '\n')
        for words in sorted(told, key=lambda w: closest.get(w, (9999, ''))[0]):
            report.write('%4d by %s: %s\n' % (closest.get(words, (9999, 'none')) + (words,)))
    print('%d mutants, %d unseen; %d sentences; %s' % (made, len(unseen), len(told), options.o))
    shutil.rmtree(CLASSES, ignore_errors=True)


if __name__ == '__main__':
    sys.exit(main())
